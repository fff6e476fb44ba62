/** Promises 16 to 20: queries about rows. */
public final class QueryTests {
    private static final Checks CHECKS = new Checks();
    private static final int NO_ACTION = ForeignKeyStore.NO_ACTION;
    private static final int CASCADE = ForeignKeyStore.CASCADE;
    private static final int NULL = ForeignKeyStore.NULL;
    private static final int NONE = ForeignKeyStore.NONE;

    private static void exists() {
        CHECKS.about("promise 16");
        ForeignKeyStore store = new ForeignKeyStore();
        store.insert(1, 0, NULL, NULL);
        store.insert(2, 19, 0, 0);
        CHECKS.due("exists(1, 0)", store.exists(1, 0), true);
        CHECKS.due("exists(2, 19)", store.exists(2, 19), true);
        CHECKS.due("exists(0, 0)", store.exists(0, 0), false);
        CHECKS.due("exists(1, 1)", store.exists(1, 1), false);
        CHECKS.due("exists(1, 19)", store.exists(1, 19), false);
        CHECKS.due("exists(3, 0)", store.exists(3, 0), false);
        store.delete(1, 0);
        CHECKS.due("exists(1, 0) after delete", store.exists(1, 0), false);
        CHECKS.outOfBounds("table -1", () -> store.exists(-1, 0));
        CHECKS.outOfBounds("table 4", () -> store.exists(4, 0));
        CHECKS.outOfBounds("key -1", () -> store.exists(1, -1));
        CHECKS.outOfBounds("key 20", () -> store.exists(1, 20));
    }

    private static void value() {
        CHECKS.about("promise 17");
        ForeignKeyStore store = new ForeignKeyStore();
        store.insert(3, 19, 19, NULL);
        CHECKS.due("value(3, 19, 0)", store.value(3, 19, 0), 19);
        CHECKS.due("value(3, 19, 1)", store.value(3, 19, 1), NULL);
        CHECKS.due("value(3, 18, 0)", store.value(3, 18, 0), NONE);
        CHECKS.due("value(3, 18, 1)", store.value(3, 18, 1), NONE);
        store.delete(3, 19);
        CHECKS.due("value(3, 19, 0) after delete", store.value(3, 19, 0), NONE);
        CHECKS.due("value(3, 19, 1) after delete", store.value(3, 19, 1), NONE);
        CHECKS.outOfBounds("table -1", () -> store.value(-1, 0, 0));
        CHECKS.outOfBounds("table 4", () -> store.value(4, 0, 0));
        CHECKS.outOfBounds("key -1", () -> store.value(0, -1, 0));
        CHECKS.outOfBounds("key 20", () -> store.value(0, 20, 0));
        CHECKS.outOfBounds("column -1", () -> store.value(0, 0, -1));
        CHECKS.outOfBounds("column 2", () -> store.value(0, 0, 2));
    }

    private static void rows() {
        CHECKS.about("promise 18");
        ForeignKeyStore store = new ForeignKeyStore();
        store.insert(0, 0, NULL, NULL);
        store.insert(0, 19, NULL, NULL);
        store.insert(2, 5, NULL, NULL);
        CHECKS.due("rows(0)", store.rows(0), 2);
        CHECKS.due("rows(1)", store.rows(1), 0);
        CHECKS.due("rows(2)", store.rows(2), 1);
        CHECKS.due("rows(3)", store.rows(3), 0);
        store.delete(0, 0);
        CHECKS.due("rows(0) after delete", store.rows(0), 1);
        CHECKS.outOfBounds("table -1", () -> store.rows(-1));
        CHECKS.outOfBounds("table 4", () -> store.rows(4));
    }

    private static void references() {
        CHECKS.about("promise 19");
        ForeignKeyStore store = new ForeignKeyStore();
        store.define(1, 0, 0, CASCADE, true);
        store.define(1, 1, 0, NO_ACTION, true);
        store.define(0, 1, 0, NO_ACTION, true);
        store.define(2, 0, 1, CASCADE, true);
        store.insert(1, 0, 6, 6);
        store.insert(1, 19, 6, NULL);
        store.insert(1, 3, 3, 6);
        store.insert(2, 0, 6, 6);
        store.insert(3, 0, 6, 6);
        CHECKS.due("a row that does not exist", store.references(0, 6), 4);
        store.insert(0, 6, 6, 6);
        CHECKS.due("with a reference to itself", store.references(0, 6), 5);
        CHECKS.due("references(0, 3)", store.references(0, 3), 1);
        CHECKS.due("references(0, 0)", store.references(0, 0), 0);
        CHECKS.due("references(1, 6)", store.references(1, 6), 1);
        CHECKS.due("references(3, 6)", store.references(3, 6), 0);
        store.delete(1, 0);
        CHECKS.due("references(0, 6) after delete", store.references(0, 6), 3);
        store.rollBack();
        store.define(0, 0, 3, CASCADE, true);
        store.insert(0, 19, 19, 19);
        CHECKS.due("by the constraint 0", store.references(3, 19), 1);
        CHECKS.due("by the constraint 1", store.references(0, 19), 1);
        CHECKS.outOfBounds("table -1", () -> store.references(-1, 0));
        CHECKS.outOfBounds("table 4", () -> store.references(4, 0));
        CHECKS.outOfBounds("key -1", () -> store.references(0, -1));
        CHECKS.outOfBounds("key 20", () -> store.references(0, 20));
    }

    private static void ancestors() {
        CHECKS.about("promise 20");
        ForeignKeyStore store = new ForeignKeyStore();
        store.define(0, 0, 1, NO_ACTION, true);
        store.define(0, 1, 2, NO_ACTION, true);
        store.define(1, 0, 3, NO_ACTION, true);
        store.define(2, 1, 3, NO_ACTION, true);
        store.define(3, 0, 3, NO_ACTION, true);
        store.insert(0, 0, 1, 2);
        CHECKS.due("none exists", store.ancestors(0, 0), 0);
        store.insert(1, 1, 3, 5);
        store.insert(2, 2, 5, 3);
        CHECKS.due("two exist", store.ancestors(0, 0), 2);
        store.insert(3, 3, NULL, NULL);
        CHECKS.due("a row on two ways counts once", store.ancestors(0, 0), 3);
        CHECKS.due("ancestors(3, 3)", store.ancestors(3, 3), 0);
        store.update(3, 3, 0, 3);
        CHECKS.due("a row that refers to itself", store.ancestors(3, 3), 1);
        CHECKS.due("ancestors(0, 0)", store.ancestors(0, 0), 3);
        store.insert(3, 5, 3, NULL);
        store.update(3, 3, 0, 5);
        CHECKS.due("one comes back", store.ancestors(3, 5), 2);
        CHECKS.due("the row itself is not counted", store.ancestors(0, 0), 4);
        CHECKS.due("no row", store.ancestors(0, 1), NONE);
        CHECKS.outOfBounds("table -1", () -> store.ancestors(-1, 0));
        CHECKS.outOfBounds("table 4", () -> store.ancestors(4, 0));
        CHECKS.outOfBounds("key -1", () -> store.ancestors(0, -1));
        CHECKS.outOfBounds("key 20", () -> store.ancestors(0, 20));
    }

    private static void ancestorsByOwnConstraints() {
        CHECKS.about("promise 20, constraints of other tables");
        ForeignKeyStore store = new ForeignKeyStore();
        store.define(1, 0, 3, NO_ACTION, true);
        store.define(0, 1, 3, NO_ACTION, true);
        store.insert(3, 5, NULL, NULL);
        store.insert(0, 0, 5, NULL);
        store.insert(1, 0, NULL, 5);
        CHECKS.due("ancestors(0, 0)", store.ancestors(0, 0), 0);
        CHECKS.due("ancestors(1, 0)", store.ancestors(1, 0), 0);
        store.update(0, 0, 1, 5);
        CHECKS.due("ancestors(0, 0) then", store.ancestors(0, 0), 1);
    }

    private static void ancestorsOfAllRows() {
        CHECKS.about("promise 20, all rows");
        ForeignKeyStore store = new ForeignKeyStore();
        for (int table = 0; table < 4; table++) {
            store.define(table, 1, (table + 1) % 4, CASCADE, true);
        }
        for (int table = 0; table < 4; table++) {
            for (int key = 0; key < 20; key++) {
                store.insert(table, key, NULL, table == 3 ? (key + 1) % 20 : key);
            }
        }
        CHECKS.due("a circle of all rows", store.ancestors(2, 11), 80);
        store.update(3, 19, 1, NULL);
        CHECKS.due("the circle is open", store.ancestors(0, 0), 79);
        CHECKS.due("its end", store.ancestors(3, 19), 0);
    }

    private static void queriesChangeNothing() {
        CHECKS.about("section 3 and 4, queries change nothing");
        ForeignKeyStore store = new ForeignKeyStore();
        store.define(0, 0, 0, CASCADE, true);
        store.insert(0, 0, 1, NULL);
        store.insert(0, 1, 0, NULL);
        store.savePoint();
        String before = Checks.stateOf(store);
        store.references(0, 0);
        store.ancestors(0, 0);
        store.ifDeleted(0, 0);
        store.firstViolation();
        CHECKS.due("the state after queries", Checks.stateOf(store), before);
    }

    public static void main(String[] args) {
        exists();
        value();
        rows();
        references();
        ancestors();
        ancestorsByOwnConstraints();
        ancestorsOfAllRows();
        queriesChangeNothing();
        CHECKS.end("QueryTests");
    }
}
