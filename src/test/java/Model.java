import java.util.ArrayList;
import java.util.LinkedHashSet;
import java.util.List;
import java.util.Map;
import java.util.TreeMap;
import java.util.regex.Matcher;
import java.util.regex.Pattern;

/**
 * A slow second reading of the document, built otherwise than the program: states are copied
 * whole, and texts are checked by a regular expression.
 */
final class Model {
    private static final String KEY = "(?:1[0-9]|[0-9])";
    private static final String VALUE = "(?:1[0-9]|[0-9]|n)";
    private static final String COMMAND = "(?:i[0-3]," + KEY + "," + VALUE + "," + VALUE
            + "|u[0-3]," + KEY + ",[01]," + VALUE + "|d[0-3]," + KEY + "|c|r|s|b[0-3])";
    private static final Pattern TEXT = Pattern.compile(COMMAND + "(?:;" + COMMAND + ")*");

    /** A row is named by its table and key. */
    private record Name(int table, int key) implements Comparable<Name> {
        public int compareTo(Name other) {
            return table != other.table ? table - other.table : key - other.key;
        }
    }

    private record Rule(int parent, int action, boolean deferred) { }

    /** A savepoint, or the begin of the transaction: the rows as they were. */
    private record Snapshot(TreeMap<Name, List<Integer>> rows, int changes) { }

    private TreeMap<Name, List<Integer>> rows = new TreeMap<>();
    private final TreeMap<Integer, Rule> rules = new TreeMap<>();
    private TreeMap<Name, List<Integer>> begin = new TreeMap<>();
    private final List<Snapshot> points = new ArrayList<>();
    private int changes = 0;
    private String text = "";

    private static void bounds(boolean inside) {
        if (!inside) {
            throw new IndexOutOfBoundsException();
        }
    }

    private static void argument(boolean fits) {
        if (!fits) {
            throw new IllegalArgumentException();
        }
    }

    private static void state(boolean allows) {
        if (!allows) {
            throw new IllegalStateException();
        }
    }

    private static boolean in(int number, int lowest, int highest) {
        return number >= lowest && number <= highest;
    }

    private static Name name(int table, int key) {
        bounds(in(table, 0, 3) && in(key, 0, 19));
        return new Name(table, key);
    }

    private static int number(int table, int column) {
        bounds(in(table, 0, 3) && in(column, 0, 1));
        return 2 * table + column;
    }

    private int violations(int number, int parent) {
        int count = 0;
        for (Map.Entry<Name, List<Integer>> row : rows.entrySet()) {
            int value = row.getValue().get(number % 2);
            if (row.getKey().table() == number / 2 && value != -1 && !rows.containsKey(new Name(parent, value))) {
                count++;
            }
        }
        return count;
    }

    private int refusal(boolean all) {
        for (Map.Entry<Integer, Rule> rule : rules.entrySet()) {
            if ((all || !rule.getValue().deferred()) && violations(rule.getKey(), rule.getValue().parent()) > 0) {
                return -10 - rule.getKey();
            }
        }
        return 0;
    }

    int define(int table, int column, int parent, int action, boolean deferred) {
        int number = number(table, column);
        bounds(in(parent, 0, 3));
        argument(in(action, 0, 3));
        state(changes == 0 && !rules.containsKey(number) && violations(number, parent) == 0);
        rules.put(number, new Rule(parent, action, deferred));
        return rules.size();
    }

    int drop(int table, int column) {
        int number = number(table, column);
        state(changes == 0 && rules.containsKey(number));
        rules.remove(number);
        return rules.size();
    }

    int setMode(int table, int column, boolean deferred) {
        int number = number(table, column);
        Rule rule = rules.get(number);
        state(rule != null);
        if (rule.deferred() == deferred) {
            return 0;
        }
        if (!deferred && violations(number, rule.parent()) > 0) {
            return -10 - number;
        }
        rules.put(number, new Rule(rule.parent(), rule.action(), deferred));
        return 1;
    }

    /** Ends a statement that began with these rows and so many changes. */
    private int end(TreeMap<Name, List<Integer>> rowsBefore, int changesBefore, int answer) {
        int refusal = answer < 0 ? answer : refusal(false);
        if (refusal == 0) {
            return answer;
        }
        rows = rowsBefore;
        changes = changesBefore;
        return refusal;
    }

    private void set(Name row, int column, int value) {
        List<Integer> values = rows.get(row);
        rows.put(row, column == 0 ? List.of(value, values.get(1)) : List.of(values.get(0), value));
        changes++;
    }

    int insert(int table, int key, int first, int second) {
        Name name = name(table, key);
        argument(in(first, -1, 19) && in(second, -1, 19));
        state(!rows.containsKey(name));
        TreeMap<Name, List<Integer>> before = new TreeMap<>(rows);
        rows.put(name, List.of(first, second));
        changes++;
        return end(before, changes - 1, 1);
    }

    int update(int table, int key, int column, int value) {
        Name name = name(table, key);
        bounds(in(column, 0, 1));
        argument(in(value, -1, 19));
        state(rows.containsKey(name));
        TreeMap<Name, List<Integer>> before = new TreeMap<>(rows);
        set(name, column, value);
        return end(before, changes - 1, 1);
    }

    int delete(int table, int key) {
        Name name = name(table, key);
        state(rows.containsKey(name));
        TreeMap<Name, List<Integer>> before = new TreeMap<>(rows);
        int changesBefore = changes;
        return end(before, changesBefore, cascade(name));
    }

    private int cascade(Name start) {
        LinkedHashSet<Name> queue = new LinkedHashSet<>(List.of(start));
        int removed = 0;
        while (!queue.isEmpty()) {
            Name gone = queue.iterator().next();
            queue.remove(gone);
            rows.remove(gone);
            changes++;
            removed++;
            for (Map.Entry<Integer, Rule> rule : rules.entrySet()) {
                for (Name row : referring(rule.getKey(), rule.getValue(), gone)) {
                    if (rule.getValue().action() == 0) {
                        return -10 - rule.getKey();
                    } else if (rule.getValue().action() == 2) {
                        queue.add(row);
                    } else if (rule.getValue().action() == 3) {
                        set(row, rule.getKey() % 2, -1);
                    }
                }
            }
        }
        return removed;
    }

    private List<Name> referring(int number, Rule rule, Name target) {
        List<Name> found = new ArrayList<>();
        for (Map.Entry<Name, List<Integer>> row : rows.entrySet()) {
            boolean ofTable = row.getKey().table() == number / 2 && rule.parent() == target.table();
            if (ofTable && row.getValue().get(number % 2) == target.key()) {
                found.add(row.getKey());
            }
        }
        return found;
    }

    int commit() {
        int refusal = refusal(true);
        if (refusal != 0) {
            return refusal;
        }
        begin = new TreeMap<>(rows);
        return empty();
    }

    int rollBack() {
        rows = new TreeMap<>(begin);
        return empty();
    }

    private int empty() {
        int count = changes;
        changes = 0;
        points.clear();
        return count;
    }

    int savePoint() {
        state(points.size() < 4);
        points.add(new Snapshot(new TreeMap<>(rows), changes));
        return points.size() - 1;
    }

    int rollBackTo(int point) {
        bounds(in(point, 0, points.size() - 1));
        int undone = changes - points.get(point).changes();
        rows = new TreeMap<>(points.get(point).rows());
        changes = points.get(point).changes();
        points.subList(point + 1, points.size()).clear();
        return undone;
    }

    int appendText(int character) {
        argument(in(character, 32, 126));
        state(text.length() < 80);
        text += (char) character;
        return text.length();
    }

    int clearText() {
        int length = text.length();
        text = "";
        return length;
    }

    /** A text can be continued to a valid one if the matcher would have liked to read on. */
    private static boolean canGoOn(String prefix) {
        Matcher matcher = TEXT.matcher(prefix);
        return matcher.matches() || matcher.hitEnd();
    }

    int errorPosition() {
        if (TEXT.matcher(text).matches()) {
            return -2;
        }
        for (int i = 0; i < text.length(); i++) {
            if (!canGoOn(text.substring(0, i + 1))) {
                return i;
            }
        }
        return text.length();
    }

    int runText() {
        state(TEXT.matcher(text).matches());
        int executed = 0;
        for (String command : text.split(";")) {
            try {
                executed++;
                if (run(command.charAt(0), command.substring(1).split(",")) <= -10) {
                    return executed;
                }
            } catch (IllegalStateException | IndexOutOfBoundsException thrown) {
                return executed - 1;
            }
        }
        return executed;
    }

    private int run(char letter, String[] words) {
        int[] n = new int[words.length];
        for (int i = 0; i < words.length; i++) {
            n[i] = words[i].isEmpty() ? 0 : words[i].equals("n") ? -1 : Integer.parseInt(words[i]);
        }
        return switch (letter) {
            case 'i' -> insert(n[0], n[1], n[2], n[3]);
            case 'u' -> update(n[0], n[1], n[2], n[3]);
            case 'd' -> delete(n[0], n[1]);
            case 'c' -> commit();
            case 'r' -> rollBack();
            case 's' -> savePoint();
            default -> rollBackTo(n[0]);
        };
    }

    boolean exists(int table, int key) {
        return rows.containsKey(name(table, key));
    }

    int value(int table, int key, int column) {
        Name name = name(table, key);
        bounds(in(column, 0, 1));
        return rows.containsKey(name) ? rows.get(name).get(column) : -2;
    }

    int rows(int table) {
        bounds(in(table, 0, 3));
        return (int) rows.keySet().stream().filter(row -> row.table() == table).count();
    }

    int references(int table, int key) {
        Name name = name(table, key);
        int count = 0;
        for (Map.Entry<Integer, Rule> rule : rules.entrySet()) {
            count += referring(rule.getKey(), rule.getValue(), name).size();
        }
        return count;
    }

    int ancestors(int table, int key) {
        Name name = name(table, key);
        if (!rows.containsKey(name)) {
            return -2;
        }
        LinkedHashSet<Name> seen = new LinkedHashSet<>();
        climb(name, seen);
        return seen.size();
    }

    private void climb(Name from, LinkedHashSet<Name> seen) {
        for (int column = 0; column < 2; column++) {
            Rule rule = rules.get(2 * from.table() + column);
            int value = rows.get(from).get(column);
            Name to = rule == null ? null : new Name(rule.parent(), value);
            if (to != null && rows.containsKey(to) && seen.add(to)) {
                climb(to, seen);
            }
        }
    }

    int constraint(int table, int column, int part) {
        int number = number(table, column);
        argument(in(part, 0, 3));
        Rule rule = rules.get(number);
        if (rule == null) {
            return -2;
        }
        int[] parts = {rule.parent(), rule.action(), rule.deferred() ? 1 : 0, violations(number, rule.parent())};
        return parts[part];
    }

    int constraints() {
        return rules.size();
    }

    int firstViolation() {
        return refusal(true);
    }

    int ifDeleted(int table, int key) {
        Name name = name(table, key);
        if (!rows.containsKey(name)) {
            return -2;
        }
        TreeMap<Name, List<Integer>> before = new TreeMap<>(rows);
        int changesBefore = changes;
        int answer = delete(table, key);
        rows = before;
        changes = changesBefore;
        return answer;
    }

    int changes() {
        return changes;
    }

    int savePoints() {
        return points.size();
    }

    int textLength() {
        return text.length();
    }
}
