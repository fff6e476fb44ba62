import java.util.ArrayList;
import java.util.List;
import java.util.Map;
import java.util.TreeMap;

/** Long runs of calls, the same ones every time, answered by the program and by the model. */
public final class ModelTests {
    private static final int RUNS = 3000;
    private static final int CALLS = 512;

    private final Checks checks;
    private final Map<String, Integer> seen;
    private final int run;
    private long seed;
    private final ForeignKeyStore store = new ForeignKeyStore();
    private final Model model = new Model();
    private final List<String> history = new ArrayList<>();
    private final StringBuilder planned = new StringBuilder();

    // Few tables and keys make rows meet; few bad arguments let most calls through.
    private final int tables;
    private final int keys;
    private final int badOutOf;
    private boolean wrong = false;

    private ModelTests(Checks checks, Map<String, Integer> seen, int run) {
        this.checks = checks;
        this.seen = seen;
        this.run = run;
        seed = run * 2654435761L + 12345;
        tables = 1 + below(4);
        keys = 1 + below(20);
        badOutOf = 15 + below(300);
    }

    private int below(int limit) {
        seed = seed * 6364136223846793005L + 1442695040888963407L;
        return (int) ((seed >>> 33) % limit);
    }

    private int number(int lowest, int most, int highest) {
        if (below(badOutOf) == 0) {
            int[] bad = {lowest - 1, highest + 1, Integer.MIN_VALUE, Integer.MAX_VALUE, -3, 64, highest};
            return bad[below(bad.length)];
        }
        return lowest + below(most);
    }

    private int table() {
        return number(0, tables, 3);
    }

    private int key() {
        return number(0, keys, 19);
    }

    private int column() {
        return number(0, 2, 1);
    }

    private int value() {
        return below(4) == 0 ? -1 : number(-1, keys + 1, 19);
    }

    private void compare(String call, Object got, Object want) {
        history.add(call);
        seen.merge(call.substring(0, call.indexOf('(')) + " " + kind(want), 1, Integer::sum);
        checks.due(call, got, want);
        if (!got.equals(want)) {
            wrong = true;
            System.out.println("run " + run + ": " + history);
        }
    }

    private static String kind(Object answer) {
        if (answer instanceof Integer number) {
            return number <= -10 ? "refused" : number == -2 ? "NONE" : number == 0 ? "0" : "more";
        }
        return answer.toString();
    }

    private void constraintCall() {
        int t = table();
        int c = column();
        boolean deferred = below(2) == 0;
        switch (below(8)) {
            case 0, 1, 2, 3 -> {
                int p = table();
                int a = number(0, 4, 3);
                compare("define(" + t + "," + c + "," + p + "," + a + "," + deferred + ")",
                        Checks.answerOf(() -> store.define(t, c, p, a, deferred)),
                        Checks.answerOf(() -> model.define(t, c, p, a, deferred)));
            }
            case 4 -> compare("drop(" + t + "," + c + ")",
                    Checks.answerOf(() -> store.drop(t, c)), Checks.answerOf(() -> model.drop(t, c)));
            default -> compare("setMode(" + t + "," + c + "," + deferred + ")",
                    Checks.answerOf(() -> store.setMode(t, c, deferred)),
                    Checks.answerOf(() -> model.setMode(t, c, deferred)));
        }
    }

    private void statementCall() {
        int t = table();
        int k = key();
        int v = value();
        switch (below(7)) {
            case 0, 1, 2, 3 -> {
                int w = value();
                compare("insert(" + t + "," + k + "," + v + "," + w + ")",
                        Checks.answerOf(() -> store.insert(t, k, v, w)),
                        Checks.answerOf(() -> model.insert(t, k, v, w)));
            }
            case 4, 5 -> {
                int c = column();
                compare("update(" + t + "," + k + "," + c + "," + v + ")",
                        Checks.answerOf(() -> store.update(t, k, c, v)),
                        Checks.answerOf(() -> model.update(t, k, c, v)));
            }
            default -> compare("delete(" + t + "," + k + ")",
                    Checks.answerOf(() -> store.delete(t, k)), Checks.answerOf(() -> model.delete(t, k)));
        }
    }

    private void transactionCall() {
        switch (below(8)) {
            case 0, 1 -> compare("commit()", store.commit(), model.commit());
            case 2 -> compare("rollBack()", store.rollBack(), model.rollBack());
            case 3, 4, 5 -> compare("savePoint()",
                    Checks.answerOf(store::savePoint), Checks.answerOf(model::savePoint));
            default -> {
                int p = number(0, 4, 3);
                compare("rollBackTo(" + p + ")", Checks.answerOf(() -> store.rollBackTo(p)),
                        Checks.answerOf(() -> model.rollBackTo(p)));
            }
        }
    }

    private String command() {
        int t = below(tables);
        int k = below(keys);
        String v = below(3) == 0 ? "n" : "" + below(keys);
        String w = below(3) == 0 ? "n" : "" + below(keys);
        return switch (below(10)) {
            case 0, 1, 2, 3 -> "i" + t + "," + k + "," + v + "," + w;
            case 4, 5 -> "u" + t + "," + k + "," + below(2) + "," + v;
            case 6 -> "d" + t + "," + k;
            case 7 -> below(3) == 0 ? "c" : "s";
            case 8 -> below(6) == 0 ? "r" : "s";
            default -> "b" + below(4);
        };
    }

    /** Plans the characters of a text, now and then with a fault in it. */
    private void planText() {
        planned.setLength(0);
        for (int commands = 1 + below(6); commands > 0; commands--) {
            planned.append(command()).append(commands > 1 ? ";" : "");
        }
        if (below(3) == 0) {
            String signs = "iudcrsbn,;0123456789 x~";
            int place = below(planned.length());
            char sign = signs.charAt(below(signs.length()));
            if (below(2) == 0) {
                planned.setCharAt(place, sign);
            } else {
                planned.insert(place, sign);
            }
        }
    }

    private void textCall() {
        if (planned.length() > 0) {
            int character = below(20 * badOutOf) == 0 ? below(200) - 40 : planned.charAt(0);
            planned.deleteCharAt(0);
            compare("appendText(" + character + ")", Checks.answerOf(() -> store.appendText(character)),
                    Checks.answerOf(() -> model.appendText(character)));
            if (below(4) == 0 || planned.length() == 0) {
                compare("errorPosition()", store.errorPosition(), model.errorPosition());
            }
            return;
        }
        switch (below(6)) {
            case 0 -> planText();
            case 1, 2, 3 -> compare("runText()",
                    Checks.answerOf(store::runText), Checks.answerOf(model::runText));
            default -> {
                compare("clearText()", store.clearText(), model.clearText());
                planText();
            }
        }
    }

    private void queryCall() {
        int t = table();
        int k = key();
        int c = column();
        String row = "(" + t + "," + k + ")";
        switch (below(12)) {
            case 0 -> compare("exists" + row,
                    Checks.answerOf(() -> store.exists(t, k)), Checks.answerOf(() -> model.exists(t, k)));
            case 1 -> compare("value(" + t + "," + k + "," + c + ")",
                    Checks.answerOf(() -> store.value(t, k, c)), Checks.answerOf(() -> model.value(t, k, c)));
            case 2 -> compare("rows(" + t + ")",
                    Checks.answerOf(() -> store.rows(t)), Checks.answerOf(() -> model.rows(t)));
            case 3 -> compare("references" + row, Checks.answerOf(() -> store.references(t, k)),
                    Checks.answerOf(() -> model.references(t, k)));
            case 4 -> compare("ancestors" + row, Checks.answerOf(() -> store.ancestors(t, k)),
                    Checks.answerOf(() -> model.ancestors(t, k)));
            case 5, 6 -> {
                int p = number(0, 4, 3);
                compare("constraint(" + t + "," + c + "," + p + ")",
                        Checks.answerOf(() -> store.constraint(t, c, p)),
                        Checks.answerOf(() -> model.constraint(t, c, p)));
            }
            case 7 -> compare("constraints()", store.constraints(), model.constraints());
            case 8 -> compare("firstViolation()", store.firstViolation(), model.firstViolation());
            case 9 -> compare("ifDeleted" + row, Checks.answerOf(() -> store.ifDeleted(t, k)),
                    Checks.answerOf(() -> model.ifDeleted(t, k)));
            case 10 -> compare("changes()", store.changes(), model.changes());
            default -> {
                compare("savePoints()", store.savePoints(), model.savePoints());
                compare("textLength()", store.textLength(), model.textLength());
            }
        }
    }

    private void runAll() {
        int statements = 20 + below(60);
        for (int begin = below(9); begin > 0; begin--) {
            constraintCall();
        }
        while (history.size() < CALLS - 3 && !wrong) {
            int choice = below(100);
            if (choice < statements) {
                statementCall();
            } else if (choice < statements + 4) {
                transactionCall();
            } else if (choice < statements + 8) {
                constraintCall();
            } else if (choice < statements + 14) {
                queryCall();
            } else {
                textCall();
            }
        }
    }

    public static void main(String[] args) {
        Checks checks = new Checks();
        checks.about("the model");
        Map<String, Integer> seen = new TreeMap<>();
        boolean wrong = false;
        for (int run = 0; run < RUNS && !wrong; run++) {
            ModelTests test = new ModelTests(checks, seen, run);
            test.runAll();
            wrong = test.wrong;
        }
        if (args.length > 0) {
            seen.forEach((call, times) -> System.out.println(call + ": " + times));
        }
        checks.end("ModelTests");
    }
}
