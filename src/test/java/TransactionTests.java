/** Promises 8 to 11, 25 and 26: transactions and savepoints. */
public final class TransactionTests {
    private static final Checks CHECKS = new Checks();
    private static final int NO_ACTION = ForeignKeyStore.NO_ACTION;
    private static final int CASCADE = ForeignKeyStore.CASCADE;
    private static final int SET_NULL = ForeignKeyStore.SET_NULL;
    private static final int NULL = ForeignKeyStore.NULL;

    private static void commit() {
        CHECKS.about("promise 8");
        ForeignKeyStore store = new ForeignKeyStore();
        CHECKS.due("without changes", store.commit(), 0);
        store.insert(0, 0, NULL, NULL);
        store.update(0, 0, 1, 5);
        store.savePoint();
        CHECKS.due("two changes", store.commit(), 2);
        CHECKS.due("changes()", store.changes(), 0);
        CHECKS.due("savePoints()", store.savePoints(), 0);
        CHECKS.due("rollBack()", store.rollBack(), 0);
        CHECKS.due("value(0, 0, 1)", store.value(0, 0, 1), 5);
    }

    private static void commitRefused() {
        CHECKS.about("promise 8, refusals");
        ForeignKeyStore store = new ForeignKeyStore();
        store.define(2, 0, 1, NO_ACTION, true);
        store.define(3, 1, 1, CASCADE, true);
        store.insert(3, 0, NULL, 1);
        store.savePoint();
        store.insert(2, 0, 1, NULL);
        String before = Checks.stateOf(store);
        CHECKS.due("the lower of two", store.commit(), -14);
        CHECKS.due("the state after it", Checks.stateOf(store), before);
        store.delete(2, 0);
        CHECKS.due("the other", store.commit(), -17);
        CHECKS.due("rollBackTo(0) goes on", store.rollBackTo(0), 2);
        store.insert(1, 1, NULL, NULL);
        CHECKS.due("not refused", store.commit(), 2);
    }

    private static void rollBack() {
        CHECKS.about("promise 9");
        ForeignKeyStore store = new ForeignKeyStore();
        store.define(1, 0, 0, CASCADE, false);
        store.define(2, 1, 0, SET_NULL, false);
        CHECKS.due("without changes", store.rollBack(), 0);
        store.insert(0, 4, NULL, 9);
        store.insert(1, 4, 4, 9);
        store.insert(2, 4, 9, 4);
        store.commit();
        String before = Checks.stateOf(store);
        store.delete(0, 4);
        store.insert(0, 4, 1, 1);
        store.update(0, 4, 0, 2);
        store.update(0, 4, 1, NULL);
        store.update(2, 4, 1, 4);
        store.delete(2, 4);
        store.savePoint();
        store.savePoint();
        CHECKS.due("all changes", store.rollBack(), 3 + 5);
        CHECKS.due("the state after it", Checks.stateOf(store), before);
        CHECKS.due("again", store.rollBack(), 0);
    }

    private static void rollBackChecksNothing() {
        CHECKS.about("section 4, no check when changes are undone");
        ForeignKeyStore store = new ForeignKeyStore();
        store.define(1, 0, 0, NO_ACTION, true);
        store.insert(0, 0, NULL, NULL);
        store.insert(1, 0, 0, NULL);
        store.commit();
        store.update(1, 0, 0, 9);
        store.savePoint();
        store.update(1, 0, 0, NULL);
        store.setMode(1, 0, false);
        CHECKS.due("rollBackTo(0)", store.rollBackTo(0), 1);
        CHECKS.due("violations", store.constraint(1, 0, 3), 1);
        CHECKS.due("the mode stays", store.constraint(1, 0, 2), 0);
        CHECKS.due("rollBack()", store.rollBack(), 1);
        CHECKS.due("violations after it", store.constraint(1, 0, 3), 0);
    }

    private static void savePoint() {
        CHECKS.about("promise 10");
        ForeignKeyStore store = new ForeignKeyStore();
        for (int point = 0; point < 4; point++) {
            CHECKS.due("savePoint()", store.savePoint(), point);
            CHECKS.due("savePoints()", store.savePoints(), point + 1);
        }
        CHECKS.illegalState("a fifth", store::savePoint);
        CHECKS.due("savePoints() after it", store.savePoints(), 4);
        store.rollBackTo(1);
        CHECKS.due("after rollBackTo(1)", store.savePoint(), 2);
        store.rollBack();
        CHECKS.due("after rollBack()", store.savePoint(), 0);
        store.commit();
        CHECKS.due("after commit()", store.savePoint(), 0);
        CHECKS.due("a savepoint is no change", store.changes(), 0);
    }

    private static void rollBackTo() {
        CHECKS.about("promise 11");
        ForeignKeyStore store = new ForeignKeyStore();
        CHECKS.outOfBounds("none", () -> store.rollBackTo(0));
        store.insert(0, 0, NULL, NULL);
        store.savePoint();
        store.insert(0, 1, NULL, NULL);
        store.insert(0, 2, NULL, NULL);
        store.savePoint();
        store.delete(0, 0);
        store.savePoint();
        String before = Checks.stateOf(store);
        CHECKS.outOfBounds("point 3", () -> store.rollBackTo(3));
        CHECKS.outOfBounds("point -1", () -> store.rollBackTo(-1));
        CHECKS.outOfBounds("lowest point", () -> store.rollBackTo(Integer.MIN_VALUE));
        CHECKS.outOfBounds("highest point", () -> store.rollBackTo(Integer.MAX_VALUE));
        CHECKS.due("the state after exceptions", Checks.stateOf(store), before);
        CHECKS.due("nothing to undo", store.rollBackTo(2), 0);
        CHECKS.due("one change", store.rollBackTo(1), 1);
        CHECKS.due("exists(0, 0)", store.exists(0, 0), true);
        CHECKS.due("savePoints()", store.savePoints(), 2);
        CHECKS.outOfBounds("point 2 was removed", () -> store.rollBackTo(2));
        store.update(0, 1, 0, 7);
        CHECKS.due("the savepoint stays", store.rollBackTo(1), 1);
        CHECKS.due("three changes at once", threeChangesAtOnce(store), 3);
        CHECKS.due("rows(0)", store.rows(0), 1);
        CHECKS.due("changes()", store.changes(), 1);
        CHECKS.due("savePoints() after all", store.savePoints(), 1);
    }

    private static int threeChangesAtOnce(ForeignKeyStore store) {
        store.update(0, 0, 0, 3);
        return store.rollBackTo(0);
    }

    private static void changes() {
        CHECKS.about("promise 25");
        ForeignKeyStore store = new ForeignKeyStore();
        store.define(1, 0, 0, CASCADE, false);
        store.define(2, 0, 0, SET_NULL, false);
        CHECKS.due("none", store.changes(), 0);
        store.insert(0, 0, NULL, NULL);
        CHECKS.due("a row inserted", store.changes(), 1);
        store.update(0, 0, 0, NULL);
        CHECKS.due("a column set to its own value", store.changes(), 2);
        store.insert(1, 0, 0, NULL);
        store.insert(2, 0, 0, NULL);
        store.insert(2, 1, 0, NULL);
        CHECKS.due("three more rows", store.changes(), 5);
        store.delete(0, 0);
        CHECKS.due("two rows removed, two columns set", store.changes(), 9);
        store.insert(1, 0, 0, NULL);
        CHECKS.due("a refused statement", store.changes(), 9);
        store.rollBack();
        CHECKS.due("after rollBack()", store.changes(), 0);
    }

    private static void savePoints() {
        CHECKS.about("promise 26");
        ForeignKeyStore store = new ForeignKeyStore();
        store.savePoint();
        store.savePoint();
        store.savePoint();
        CHECKS.due("three", store.savePoints(), 3);
        store.rollBackTo(2);
        CHECKS.due("the last one stays", store.savePoints(), 3);
        store.rollBackTo(0);
        CHECKS.due("the first one stays", store.savePoints(), 1);
        store.rollBack();
        CHECKS.due("none", store.savePoints(), 0);
    }

    /** More changes than any array is likely to begin with, then all of them undone. */
    private static void manyChanges() {
        CHECKS.about("section 4, many changes");
        ForeignKeyStore store = new ForeignKeyStore();
        store.define(0, 0, 0, SET_NULL, false);
        store.define(0, 1, 0, SET_NULL, false);
        store.insert(1, 1, 2, 3);
        store.commit();
        Checks.write(store, "i0,0,n,n;i0,1,0,0;i0,2,0,0;i0,3,0,0;i0,4,0,0;d0,0;d0,1;d0,2;d0,3;d0,4");
        int runs = 512 - 2 - 1 - 1 - 69 - 6;
        for (int run = 0; run < runs; run++) {
            CHECKS.due("runText()", store.runText(), 10);
        }
        CHECKS.due("changes()", store.changes(), runs * 18);
        CHECKS.due("rollBack()", store.rollBack(), runs * 18);
        CHECKS.due("rows(0)", store.rows(0), 0);
        CHECKS.due("value(1, 1, 1)", store.value(1, 1, 1), 3);
    }

    public static void main(String[] args) {
        commit();
        commitRefused();
        rollBack();
        rollBackChecksNothing();
        savePoint();
        rollBackTo();
        changes();
        savePoints();
        manyChanges();
        CHECKS.end("TransactionTests");
    }
}
