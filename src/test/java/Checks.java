import java.util.function.Supplier;

/** Counts and prints the answers of a test class that are not the ones that are due. */
final class Checks {
    private int done = 0;
    private int wrong = 0;
    private String part = "";

    /** Names the promise, or the section, that the following checks are about. */
    void about(String part) {
        this.part = part;
    }

    void due(String call, Object got, Object want) {
        done++;
        if (!want.equals(got)) {
            wrong++;
            System.out.println(part + ": " + call + " answered " + got + ", due is " + want);
        }
    }

    int done() {
        return done;
    }

    void outOfBounds(String call, Supplier<?> run) {
        due(call, answerOf(run), "IndexOutOfBoundsException");
    }

    void illegalArgument(String call, Supplier<?> run) {
        due(call, answerOf(run), "IllegalArgumentException");
    }

    void illegalState(String call, Supplier<?> run) {
        due(call, answerOf(run), "IllegalStateException");
    }

    /** The answer of a call, or the name of the class of the exception that it throws. */
    static Object answerOf(Supplier<?> run) {
        try {
            return run.get();
        } catch (RuntimeException thrown) {
            return thrown.getClass().getSimpleName();
        }
    }

    /** Appends all characters of a text to the buffer. */
    static void write(ForeignKeyStore store, String text) {
        for (int i = 0; i < text.length(); i++) {
            store.appendText(text.charAt(i));
        }
    }

    /** All that the queries tell of a store. */
    static String stateOf(ForeignKeyStore store) {
        StringBuilder state = new StringBuilder();
        for (int table = 0; table < 4; table++) {
            state.append("t").append(table).append('#').append(store.rows(table)).append(':');
            for (int key = 0; key < 20; key++) {
                if (store.exists(table, key)) {
                    state.append(key).append('(').append(store.value(table, key, 0)).append(',');
                    state.append(store.value(table, key, 1)).append(')');
                }
            }
            for (int column = 0; column < 2; column++) {
                for (int part = 0; part < 4; part++) {
                    state.append('/').append(store.constraint(table, column, part));
                }
            }
        }
        state.append(" constraints ").append(store.constraints());
        state.append(" changes ").append(store.changes());
        state.append(" savepoints ").append(store.savePoints());
        state.append(" text ").append(store.textLength()).append('?').append(store.errorPosition());
        return state.toString();
    }

    void end(String name) {
        System.out.println(name + ": " + done + " checks, " + wrong + " wrong");
        if (wrong != 0) {
            System.exit(1);
        }
    }
}
