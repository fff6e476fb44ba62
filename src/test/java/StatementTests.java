/** Promises 5 to 7 and 24: statements, and what a deletion would do. */
public final class StatementTests {
    private static final Checks CHECKS = new Checks();
    private static final int RESTRICT = ForeignKeyStore.RESTRICT;
    private static final int NO_ACTION = ForeignKeyStore.NO_ACTION;
    private static final int CASCADE = ForeignKeyStore.CASCADE;
    private static final int SET_NULL = ForeignKeyStore.SET_NULL;
    private static final int NULL = ForeignKeyStore.NULL;
    private static final int NONE = ForeignKeyStore.NONE;

    private static void insert() {
        CHECKS.about("promise 5");
        ForeignKeyStore store = new ForeignKeyStore();
        for (int table = 0; table < 4; table++) {
            for (int key = 0; key < 20; key++) {
                CHECKS.due("insert", store.insert(table, key, key - 1, 19 - key), 1);
            }
        }
        CHECKS.due("changes()", store.changes(), 80);
        CHECKS.due("value(3, 0, 0)", store.value(3, 0, 0), NULL);
        CHECKS.due("value(3, 0, 1)", store.value(3, 0, 1), 19);
        CHECKS.due("value(1, 19, 0)", store.value(1, 19, 0), 18);
        CHECKS.due("value(1, 19, 1)", store.value(1, 19, 1), 0);
    }

    private static void insertWithWrongInputs() {
        CHECKS.about("promise 5, exceptions");
        ForeignKeyStore store = new ForeignKeyStore();
        store.insert(0, 0, 7, 8);
        store.insert(0, 19, 7, 8);
        String before = Checks.stateOf(store);
        CHECKS.outOfBounds("table -1", () -> store.insert(-1, 0, 0, 0));
        CHECKS.outOfBounds("table 4", () -> store.insert(4, 0, 0, 0));
        CHECKS.outOfBounds("key -1", () -> store.insert(1, -1, 0, 0));
        CHECKS.outOfBounds("key 20", () -> store.insert(0, 20, 0, 0));
        CHECKS.outOfBounds("key 20 and value 20", () -> store.insert(0, 20, 20, 0));
        CHECKS.illegalArgument("first -2", () -> store.insert(0, 0, -2, 0));
        CHECKS.illegalArgument("first 20", () -> store.insert(0, 0, 20, 0));
        CHECKS.illegalArgument("second -2", () -> store.insert(0, 0, 0, -2));
        CHECKS.illegalArgument("second 20", () -> store.insert(0, 0, 0, 20));
        CHECKS.illegalState("a row with this key", () -> store.insert(0, 0, NULL, NULL));
        CHECKS.due("the state after exceptions", Checks.stateOf(store), before);
    }

    private static void insertRefused() {
        CHECKS.about("promise 5, refusals");
        ForeignKeyStore store = new ForeignKeyStore();
        store.define(0, 0, 1, NO_ACTION, false);
        store.define(0, 1, 1, NO_ACTION, false);
        store.define(1, 0, 2, NO_ACTION, true);
        String before = Checks.stateOf(store);
        CHECKS.due("the first of two", store.insert(0, 5, 5, 5), -10);
        CHECKS.due("the second alone", store.insert(0, 5, NULL, 5), -11);
        CHECKS.due("the state after refusals", Checks.stateOf(store), before);
        CHECKS.due("a deferred one", store.insert(1, 5, 0, NULL), 1);
        CHECKS.due("the parent is there now", store.insert(0, 5, 5, 5), 1);
        CHECKS.due("both NULL", store.insert(0, 6, NULL, NULL), 1);
    }

    private static void insertChecksAllConstraints() {
        CHECKS.about("section 3, the check at the end");
        ForeignKeyStore store = new ForeignKeyStore();
        store.define(3, 0, 3, CASCADE, false);
        CHECKS.due("a row that refers to itself", store.insert(3, 4, 4, NULL), 1);
        store.commit();
        store.define(0, 1, 1, NO_ACTION, true);
        store.insert(0, 0, NULL, 9);
        store.savePoint();
        store.insert(1, 9, NULL, NULL);
        store.setMode(0, 1, false);
        store.rollBackTo(0);
        CHECKS.due("insert, another row violates", store.insert(2, 0, NULL, NULL), -11);
        CHECKS.due("update, another row violates", store.update(3, 4, 1, 0), -11);
        CHECKS.due("delete, another row violates", store.delete(3, 4), -11);
        CHECKS.due("ifDeleted, another row violates", store.ifDeleted(3, 4), -11);
        CHECKS.due("the first violated", store.insert(3, 0, 19, NULL), -11);
        CHECKS.due("changes()", store.changes(), 1);
        CHECKS.due("the parent is inserted", store.insert(1, 9, NULL, NULL), 1);
    }

    private static void update() {
        CHECKS.about("promise 6");
        ForeignKeyStore store = new ForeignKeyStore();
        store.define(2, 0, 0, NO_ACTION, false);
        store.define(2, 1, 2, NO_ACTION, true);
        store.insert(0, 19, NULL, NULL);
        store.insert(2, 0, NULL, 3);
        CHECKS.due("update", store.update(2, 0, 0, 19), 1);
        CHECKS.due("value 0", store.value(2, 0, 0), 19);
        CHECKS.due("value 1", store.value(2, 0, 1), 3);
        CHECKS.due("changes()", store.changes(), 3);
        CHECKS.due("to the same value", store.update(2, 0, 0, 19), 1);
        CHECKS.due("changes() with it", store.changes(), 4);
        CHECKS.due("refused", store.update(2, 0, 0, 18), -14);
        CHECKS.due("value 0 after it", store.value(2, 0, 0), 19);
        CHECKS.due("changes() after it", store.changes(), 4);
        CHECKS.due("a deferred one", store.update(2, 0, 1, 0), 1);
        CHECKS.due("value 1 after it", store.value(2, 0, 1), 0);
        CHECKS.due("a deferred one, violated", store.update(2, 0, 1, 7), 1);
        CHECKS.due("to NULL", store.update(2, 0, 0, NULL), 1);
        String before = Checks.stateOf(store);
        CHECKS.outOfBounds("table -1", () -> store.update(-1, 0, 0, 0));
        CHECKS.outOfBounds("table 4", () -> store.update(4, 0, 0, 0));
        CHECKS.outOfBounds("key -1", () -> store.update(2, -1, 0, 0));
        CHECKS.outOfBounds("key 20", () -> store.update(2, 20, 0, 0));
        CHECKS.outOfBounds("column -1", () -> store.update(2, 0, -1, 0));
        CHECKS.outOfBounds("column 2", () -> store.update(2, 0, 2, 0));
        CHECKS.outOfBounds("column 2 and value 20", () -> store.update(2, 0, 2, 20));
        CHECKS.illegalArgument("value -2", () -> store.update(2, 0, 0, -2));
        CHECKS.illegalArgument("value 20", () -> store.update(2, 0, 0, 20));
        CHECKS.illegalArgument("value 20, no row", () -> store.update(2, 1, 0, 20));
        CHECKS.illegalState("no row", () -> store.update(2, 1, 0, 0));
        CHECKS.due("the state after exceptions", Checks.stateOf(store), before);
    }

    private static void delete() {
        CHECKS.about("promise 7");
        ForeignKeyStore store = new ForeignKeyStore();
        store.insert(1, 3, NULL, 4);
        store.insert(1, 4, 3, 3);
        CHECKS.due("without constraints", store.delete(1, 3), 1);
        CHECKS.due("exists", store.exists(1, 3), false);
        CHECKS.due("the other row", store.value(1, 4, 0), 3);
        CHECKS.due("changes()", store.changes(), 3);
        String before = Checks.stateOf(store);
        CHECKS.illegalState("no row", () -> store.delete(1, 3));
        CHECKS.outOfBounds("table -1", () -> store.delete(-1, 3));
        CHECKS.outOfBounds("table 4", () -> store.delete(4, 3));
        CHECKS.outOfBounds("key -1", () -> store.delete(1, -1));
        CHECKS.outOfBounds("key 20", () -> store.delete(1, 20));
        CHECKS.due("the state after exceptions", Checks.stateOf(store), before);
        CHECKS.due("insert again", store.insert(1, 3, 0, 0), 1);
    }

    private static void deleteRestricted() {
        CHECKS.about("section 3, RESTRICT");
        ForeignKeyStore store = new ForeignKeyStore();
        store.define(1, 1, 0, RESTRICT, true);
        store.define(2, 0, 0, CASCADE, false);
        store.define(2, 1, 1, SET_NULL, false);
        store.insert(0, 0, NULL, NULL);
        store.insert(0, 1, NULL, NULL);
        store.insert(1, 7, NULL, 1);
        store.insert(2, 0, 1, 7);
        String before = Checks.stateOf(store);
        CHECKS.due("refused, deferred too", store.delete(0, 1), -13);
        CHECKS.due("the state after it", Checks.stateOf(store), before);
        CHECKS.due("not referred to", store.delete(0, 0), 1);
        CHECKS.due("the referring row", store.delete(1, 7), 1);
        CHECKS.due("set to NULL", store.value(2, 0, 1), NULL);
        CHECKS.due("not restricted any more", store.delete(0, 1), 2);
    }

    private static void deleteRefusedByTheConstraint0() {
        CHECKS.about("section 3, the refusal -10");
        ForeignKeyStore store = new ForeignKeyStore();
        store.define(0, 0, 1, RESTRICT, true);
        store.insert(1, 8, NULL, NULL);
        store.insert(0, 8, 8, NULL);
        String before = Checks.stateOf(store);
        CHECKS.due("ifDeleted(1, 8)", store.ifDeleted(1, 8), -10);
        CHECKS.due("delete(1, 8)", store.delete(1, 8), -10);
        CHECKS.due("the state after it", Checks.stateOf(store), before);
    }

    private static void deleteRestrictedInTheQueue() {
        CHECKS.about("section 3, RESTRICT of a row in the queue");
        ForeignKeyStore store = new ForeignKeyStore();
        store.define(1, 0, 0, CASCADE, false);
        store.define(1, 1, 0, RESTRICT, false);
        store.insert(0, 2, NULL, NULL);
        store.insert(1, 0, 2, 2);
        store.commit();
        CHECKS.due("refused", store.delete(0, 2), -13);
        CHECKS.due("rows", store.rows(0) + store.rows(1), 2);
        CHECKS.due("changes()", store.changes(), 0);
        CHECKS.due("the row that refers", store.delete(1, 0), 1);
        CHECKS.due("then the row", store.delete(0, 2), 1);
    }

    private static void deleteUndoesAPartialCascade() {
        CHECKS.about("section 3, a refusal late in the queue");
        ForeignKeyStore store = new ForeignKeyStore();
        store.define(1, 0, 0, CASCADE, false);
        store.define(2, 0, 0, SET_NULL, false);
        store.define(2, 1, 1, CASCADE, false);
        store.define(3, 1, 2, RESTRICT, false);
        store.insert(0, 0, NULL, NULL);
        store.insert(1, 1, 0, NULL);
        store.insert(2, 2, 0, 1);
        store.insert(3, 3, NULL, 2);
        String before = Checks.stateOf(store);
        CHECKS.due("ifDeleted", store.ifDeleted(0, 0), -17);
        CHECKS.due("refused", store.delete(0, 0), -17);
        CHECKS.due("the state after it", Checks.stateOf(store), before);
        store.update(3, 3, 1, NULL);
        CHECKS.due("three rows", store.delete(0, 0), 3);
        CHECKS.due("changes()", store.changes(), 4 + 1 + 4);
        CHECKS.due("rollBack()", store.rollBack(), 9);
    }

    private static void deleteWithNoAction() {
        CHECKS.about("section 3, NO_ACTION");
        ForeignKeyStore store = new ForeignKeyStore();
        store.define(1, 0, 0, NO_ACTION, false);
        store.insert(0, 0, NULL, NULL);
        store.insert(1, 0, 0, NULL);
        CHECKS.due("immediate", store.delete(0, 0), -12);
        CHECKS.due("the row stays", store.exists(0, 0), true);
        CHECKS.due("changes()", store.changes(), 2);
        store.setMode(1, 0, true);
        CHECKS.due("deferred", store.delete(0, 0), 1);
        CHECKS.due("the value stays", store.value(1, 0, 0), 0);
        CHECKS.due("commit()", store.commit(), -12);
        ForeignKeyStore both = new ForeignKeyStore();
        both.define(1, 0, 0, NO_ACTION, false);
        both.define(1, 1, 0, CASCADE, false);
        both.insert(0, 5, NULL, NULL);
        both.insert(1, 6, 5, 5);
        CHECKS.due("the cascade removes the referring row", both.delete(0, 5), 2);
        both.rollBack();
        both.drop(1, 1);
        both.define(1, 1, 0, SET_NULL, false);
        both.insert(0, 5, NULL, NULL);
        both.insert(1, 6, 5, 5);
        CHECKS.due("refused, and undone", both.delete(0, 5), -12);
        CHECKS.due("the value set to NULL is back", both.value(1, 6, 1), 5);
    }

    private static void deleteCascades() {
        CHECKS.about("section 3, CASCADE");
        ForeignKeyStore store = new ForeignKeyStore();
        store.define(0, 0, 0, CASCADE, false);
        store.insert(0, 0, NULL, NULL);
        for (int key = 1; key < 20; key++) {
            store.insert(0, key, key - 1, NULL);
        }
        store.commit();
        CHECKS.due("the tail of a chain", store.delete(0, 10), 10);
        CHECKS.due("changes()", store.changes(), 10);
        CHECKS.due("rows(0)", store.rows(0), 10);
        CHECKS.due("rollBack()", store.rollBack(), 10);
        store.update(0, 0, 0, 19);
        CHECKS.due("a circle", store.delete(0, 7), 20);
        CHECKS.due("rows(0) after it", store.rows(0), 0);
        CHECKS.due("changes() after it", store.changes(), 21);
        ForeignKeyStore self = new ForeignKeyStore();
        self.define(2, 0, 2, RESTRICT, false);
        self.define(2, 1, 2, SET_NULL, false);
        self.insert(2, 6, 6, 6);
        CHECKS.due("references to itself do not count", self.delete(2, 6), 1);
        CHECKS.due("changes() of it", self.changes(), 2);
    }

    private static void deleteCascadesOverAllRows() {
        CHECKS.about("section 3, all rows");
        ForeignKeyStore store = new ForeignKeyStore();
        for (int table = 0; table < 4; table++) {
            store.define(table, 0, (table + 3) % 4, CASCADE, true);
            store.define(table, 1, (table + 3) % 4, SET_NULL, true);
        }
        for (int key = 0; key < 20; key++) {
            for (int table = 0; table < 4; table++) {
                int parent = table == 0 ? key - 1 : key;
                store.insert(table, key, parent, parent);
            }
        }
        CHECKS.due("commit()", store.commit(), 80);
        CHECKS.due("ifDeleted(0, 0)", store.ifDeleted(0, 0), 80);
        CHECKS.due("delete(0, 0)", store.delete(0, 0), 80);
        CHECKS.due("changes()", store.changes(), 80 + 79);
        CHECKS.due("rollBack()", store.rollBack(), 159);
        CHECKS.due("rows(3)", store.rows(3), 20);
        CHECKS.due("value(3, 19, 1)", store.value(3, 19, 1), 19);
    }

    private static void deleteSetsNull() {
        CHECKS.about("section 3, SET_NULL");
        ForeignKeyStore store = new ForeignKeyStore();
        store.define(1, 0, 0, SET_NULL, false);
        store.define(1, 1, 0, SET_NULL, true);
        store.insert(0, 0, NULL, NULL);
        store.insert(0, 1, NULL, NULL);
        store.insert(1, 0, 0, 0);
        store.insert(1, 1, 0, 1);
        store.insert(1, 2, 1, 0);
        store.commit();
        CHECKS.due("delete(0, 0)", store.delete(0, 0), 1);
        CHECKS.due("changes()", store.changes(), 5);
        CHECKS.due("value(1, 0, 0)", store.value(1, 0, 0), NULL);
        CHECKS.due("value(1, 0, 1)", store.value(1, 0, 1), NULL);
        CHECKS.due("value(1, 1, 0)", store.value(1, 1, 0), NULL);
        CHECKS.due("value(1, 1, 1)", store.value(1, 1, 1), 1);
        CHECKS.due("value(1, 2, 0)", store.value(1, 2, 0), 1);
        CHECKS.due("value(1, 2, 1)", store.value(1, 2, 1), NULL);
    }

    private static void deleteSetsNullInTheQueue() {
        CHECKS.about("section 3, SET_NULL of a row in the queue");
        ForeignKeyStore store = new ForeignKeyStore();
        store.define(1, 0, 0, CASCADE, false);
        store.define(1, 1, 0, SET_NULL, false);
        store.insert(0, 0, NULL, NULL);
        store.insert(1, 0, 0, 0);
        store.commit();
        CHECKS.due("delete(0, 0)", store.delete(0, 0), 2);
        CHECKS.due("changes()", store.changes(), 3);
        store.rollBack();
        CHECKS.due("value(1, 0, 1) is back", store.value(1, 0, 1), 0);
    }

    /** A row that was removed in time does not restrict any more. */
    private static void deleteRemovesARowThatRestricts() {
        CHECKS.about("section 3, a restricting row that is removed first");
        ForeignKeyStore store = new ForeignKeyStore();
        store.define(1, 0, 0, CASCADE, true);
        store.define(1, 1, 0, RESTRICT, true);
        store.define(0, 0, 1, CASCADE, true);
        store.insert(0, 0, NULL, NULL);
        store.insert(0, 1, 5, NULL);
        store.insert(1, 5, 0, 1);
        CHECKS.due("the row itself", store.ifDeleted(0, 1), -13);
        CHECKS.due("behind the restricting row", store.delete(0, 0), 3);
    }

    private static void deleteInTheOrderOfTheConstraints() {
        CHECKS.about("section 3, the order");
        ForeignKeyStore store = new ForeignKeyStore();
        store.define(1, 0, 0, CASCADE, false);
        store.define(2, 0, 0, CASCADE, false);
        store.define(3, 0, 1, SET_NULL, false);
        store.define(3, 1, 2, RESTRICT, false);
        store.define(0, 0, 3, RESTRICT, false);
        store.insert(3, 0, NULL, NULL);
        store.insert(0, 0, NULL, NULL);
        store.insert(1, 1, 0, NULL);
        store.insert(2, 2, 0, NULL);
        store.insert(3, 3, 1, 2);
        CHECKS.due("the first RESTRICT on the way", store.delete(0, 0), -17);
        store.update(3, 3, 1, NULL);
        CHECKS.due("three rows", store.delete(0, 0), 3);
        CHECKS.due("value(3, 3, 0)", store.value(3, 3, 0), NULL);
        ForeignKeyStore two = new ForeignKeyStore();
        two.define(2, 1, 0, RESTRICT, false);
        two.define(1, 1, 0, RESTRICT, false);
        two.insert(0, 0, NULL, NULL);
        two.insert(1, 19, NULL, 0);
        two.insert(2, 0, NULL, 0);
        CHECKS.due("the lower number", two.delete(0, 0), -13);
    }

    /** RESTRICT comes before the check at the end of the statement, whatever the numbers. */
    private static void deleteRefusesBeforeTheCheck() {
        CHECKS.about("section 3, RESTRICT before the check");
        ForeignKeyStore store = new ForeignKeyStore();
        store.define(1, 0, 0, NO_ACTION, false);
        store.define(2, 0, 0, RESTRICT, false);
        store.insert(0, 0, NULL, NULL);
        store.insert(1, 0, 0, NULL);
        store.insert(2, 0, 0, NULL);
        CHECKS.due("delete(0, 0)", store.delete(0, 0), -14);
        store.delete(2, 0);
        CHECKS.due("delete(0, 0), then", store.delete(0, 0), -12);
    }

    /** The queue is first in, first out: which RESTRICT is met first depends on it. */
    private static void deleteTakesTheFirstOfTheQueue() {
        CHECKS.about("section 3, the queue");
        ForeignKeyStore store = new ForeignKeyStore();
        store.define(0, 0, 0, CASCADE, true);
        store.define(1, 0, 0, RESTRICT, true);
        store.define(1, 1, 0, RESTRICT, true);
        store.insert(0, 0, NULL, NULL);
        store.insert(0, 1, 0, NULL);
        store.insert(0, 2, 0, NULL);
        store.insert(0, 3, 1, NULL);
        store.insert(1, 0, 3, 2);
        CHECKS.due("the row 2 comes before the row 3", store.delete(0, 0), -13);
        store.update(1, 0, 1, NULL);
        CHECKS.due("then the row 3", store.delete(0, 0), -12);
        store.update(1, 0, 0, 2);
        store.update(1, 0, 1, 1);
        CHECKS.due("the row 1 comes before the row 2", store.delete(0, 0), -13);
        store.update(1, 0, 1, NULL);
        store.update(1, 0, 0, NULL);
        CHECKS.due("then all", store.delete(0, 0), 4);
    }

    private static void ifDeleted() {
        CHECKS.about("promise 24");
        ForeignKeyStore store = new ForeignKeyStore();
        store.define(1, 0, 0, CASCADE, false);
        store.define(1, 1, 0, SET_NULL, false);
        store.define(2, 0, 0, NO_ACTION, false);
        store.insert(0, 0, NULL, NULL);
        store.insert(0, 1, NULL, NULL);
        store.insert(1, 0, 0, 1);
        store.insert(1, 1, 1, 0);
        store.insert(2, 2, 1, NULL);
        store.savePoint();
        String before = Checks.stateOf(store);
        CHECKS.due("ifDeleted(0, 0)", store.ifDeleted(0, 0), 2);
        CHECKS.due("ifDeleted(0, 1)", store.ifDeleted(0, 1), -14);
        CHECKS.due("ifDeleted(0, 2)", store.ifDeleted(0, 2), NONE);
        CHECKS.due("ifDeleted(3, 19)", store.ifDeleted(3, 19), NONE);
        CHECKS.outOfBounds("table -1", () -> store.ifDeleted(-1, 0));
        CHECKS.outOfBounds("table 4", () -> store.ifDeleted(4, 0));
        CHECKS.outOfBounds("key -1", () -> store.ifDeleted(0, -1));
        CHECKS.outOfBounds("key 20", () -> store.ifDeleted(0, 20));
        CHECKS.due("the state after all", Checks.stateOf(store), before);
        CHECKS.due("delete(0, 0)", store.delete(0, 0), 2);
    }

    public static void main(String[] args) {
        insert();
        insertWithWrongInputs();
        insertRefused();
        insertChecksAllConstraints();
        update();
        delete();
        deleteRestricted();
        deleteRefusedByTheConstraint0();
        deleteRestrictedInTheQueue();
        deleteUndoesAPartialCascade();
        deleteWithNoAction();
        deleteCascades();
        deleteCascadesOverAllRows();
        deleteSetsNull();
        deleteSetsNullInTheQueue();
        deleteRemovesARowThatRestricts();
        deleteInTheOrderOfTheConstraints();
        deleteRefusesBeforeTheCheck();
        deleteTakesTheFirstOfTheQueue();
        ifDeleted();
        CHECKS.end("StatementTests");
    }
}
