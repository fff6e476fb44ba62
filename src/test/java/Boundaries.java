import java.util.function.BiFunction;
import java.util.function.Function;
import java.util.function.Supplier;

/** What the tests of single sentences have in common: stores to begin with, and comparisons. */
abstract class Boundaries {
    static final int NULL = ForeignKeyStore.NULL;
    static final int NONE = ForeignKeyStore.NONE;
    static final int RESTRICT = ForeignKeyStore.RESTRICT;
    static final int NO_ACTION = ForeignKeyStore.NO_ACTION;
    static final int CASCADE = ForeignKeyStore.CASCADE;
    static final int SET_NULL = ForeignKeyStore.SET_NULL;

    static final String INDEX = "IndexOutOfBoundsException";
    static final String ARGUMENT = "IllegalArgumentException";
    static final String STATE = "IllegalStateException";

    /** The document promises nothing about an object after this many calls. */
    static final int CALLS = 512;

    /** A call on a store, and a call with a number that is to be tried. */
    interface Call extends Function<ForeignKeyStore, Object> { }

    interface NumberCall extends BiFunction<ForeignKeyStore, Integer, Object> { }

    static ForeignKeyStore empty() {
        return new ForeignKeyStore();
    }

    /** Constraints, committed rows, a savepoint and a text, but no changes. */
    static ForeignKeyStore quiet() {
        ForeignKeyStore store = new ForeignKeyStore();
        store.define(1, 0, 0, CASCADE, false);
        store.define(1, 1, 0, SET_NULL, true);
        store.define(2, 0, 1, RESTRICT, false);
        store.insert(0, 0, NULL, NULL);
        store.insert(0, 1, NULL, 9);
        store.insert(1, 0, 0, 1);
        store.insert(2, 3, 0, NULL);
        store.commit();
        store.savePoint();
        Checks.write(store, "i0,5");
        return store;
    }

    /** As the quiet store, and with three changes and a second savepoint before the third. */
    static ForeignKeyStore busy() {
        ForeignKeyStore store = quiet();
        store.insert(0, 2, 3, NULL);
        store.update(1, 0, 1, 2);
        store.savePoint();
        store.delete(0, 1);
        return store;
    }

    /** The constraint 2 is immediate and violated, which only a roll back can bring about. */
    static ForeignKeyStore violatedByRollBack() {
        ForeignKeyStore store = new ForeignKeyStore();
        store.define(1, 0, 0, NO_ACTION, true);
        store.insert(3, 3, NULL, NULL);
        store.commit();
        store.insert(1, 0, 7, NULL);
        store.savePoint();
        store.insert(0, 7, NULL, NULL);
        store.setMode(1, 0, false);
        store.rollBackTo(0);
        return store;
    }

    static ForeignKeyStore withText(String text) {
        ForeignKeyStore store = new ForeignKeyStore();
        Checks.write(store, text);
        return store;
    }

    /** All keys of all tables, each row with these values. */
    static void fill(ForeignKeyStore store, int first, int second) {
        for (int table = 0; table < 4; table++) {
            for (int key = 0; key < 20; key++) {
                store.insert(table, key, first, second);
            }
        }
    }

    /** The next numbers beyond a range, and far ones; some are 0 again if one multiplies them. */
    static int[] beyond(int lowest, int highest) {
        return new int[] {
            lowest - 1, highest + 1, Integer.MIN_VALUE, Integer.MAX_VALUE, 1 << 30, -(1 << 30),
        };
    }

    /** A row of a store as text: its values, NONE twice if there is no such row. */
    static String row(ForeignKeyStore store, int table, int key) {
        return store.value(table, key, 0) + " " + store.value(table, key, 1);
    }

    /** The call answers so, and leaves a store that can't be told from one without the call. */
    static void changesNothing(Checks checks, String call, Object want,
            Supplier<ForeignKeyStore> prepare, Call run) {
        ForeignKeyStore store = prepare.get();
        checks.due(call, Checks.answerOf(() -> run.apply(store)), want);
        checks.due("what is left by " + call, traceOf(store), traceOf(prepare.get()));
    }

    /** A number beyond the range is answered by the exception, and changes nothing. */
    static void throwsBeyond(Checks checks, String exception, int lowest, int highest, String call,
            NumberCall run) {
        for (int number : beyond(lowest, highest)) {
            changesNothing(checks, call + " with " + number, exception, Boundaries::busy,
                    store -> run.apply(store, number));
        }
    }

    /** All that can be found out of a store, also of its changes and savepoints; it is used up. */
    static String traceOf(ForeignKeyStore store) {
        StringBuilder trace = new StringBuilder(Checks.stateOf(store));
        for (int point = store.savePoints() - 1; point >= 0; point--) {
            trace.append(" b").append(point).append('=').append(store.rollBackTo(point));
            appendRows(trace, store);
        }
        trace.append(" r=").append(store.rollBack());
        appendRows(trace, store);
        return trace.toString();
    }

    private static void appendRows(StringBuilder trace, ForeignKeyStore store) {
        for (int table = 0; table < 4; table++) {
            int rows = store.rows(table);
            trace.append(" t").append(table).append('#').append(rows);
            // It stops at the last row: a store is good for 512 calls.
            for (int key = 0; key < 20 && rows > 0; key++) {
                if (store.exists(table, key)) {
                    rows--;
                    trace.append(' ').append(key).append('(').append(row(store, table, key)).append(')');
                }
            }
        }
    }
}
