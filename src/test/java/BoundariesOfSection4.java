/** Of "Terms": 4. TRANSACTIONS. */
final class BoundariesOfSection4 extends Boundaries {

    private static final String ALWAYS_ONE = "There is always one transaction, which begins when the store is "
            + "created, when a transaction is committed and when a transaction is rolled back.";

    @Sentence(ALWAYS_ONE)
    static void section4_begunByTheStore(Checks checks) {
        checks.due("rollBack() first", empty().rollBack(), 0);
        checks.due("commit() first", empty().commit(), 0);
        ForeignKeyStore store = empty();
        store.insert(0, 0, NULL, NULL);
        checks.due("the first change", store.rollBack(), 1);
        checks.due("exists(0, 0)", store.exists(0, 0), false);
    }

    @Sentence(ALWAYS_ONE)
    static void section4_begunByCommit(Checks checks) {
        ForeignKeyStore store = empty();
        store.insert(0, 0, NULL, NULL);
        store.commit();
        checks.due("commit() again", store.commit(), 0);
        store.insert(0, 1, NULL, NULL);
        checks.due("rollBack()", store.rollBack(), 1);
        checks.due("the committed row", store.exists(0, 0), true);
        checks.due("rollBack() again", store.rollBack(), 0);
        checks.due("the committed row still", store.exists(0, 0), true);
    }

    @Sentence(ALWAYS_ONE)
    static void section4_begunByRollBack(Checks checks) {
        ForeignKeyStore store = empty();
        store.insert(0, 0, NULL, NULL);
        store.rollBack();
        store.insert(0, 1, NULL, NULL);
        checks.due("changes()", store.changes(), 1);
        checks.due("savePoint()", store.savePoint(), 0);
        checks.due("commit()", store.commit(), 1);
    }

    private static final String CHANGES = "It has a list of changes: each row that is inserted, each row that is "
            + "removed and each column that is set (by an update, also to the value that it has, or by SET_NULL) is one change.";

    @Sentence(CHANGES)
    static void section4_eachRowInsertedOrRemoved(Checks checks) {
        ForeignKeyStore store = empty();
        store.define(1, 0, 0, CASCADE, false);
        checks.due("no change", store.changes(), 0);
        store.insert(0, 0, 5, 6);
        checks.due("a row with two values inserted", store.changes(), 1);
        store.insert(1, 0, 0, NULL);
        store.insert(1, 1, 0, NULL);
        store.delete(0, 0);
        checks.due("three rows removed", store.changes(), 6);
    }

    @Sentence(CHANGES)
    static void section4_eachColumnSetByAnUpdate(Checks checks) {
        ForeignKeyStore store = empty();
        store.insert(0, 0, NULL, 5);
        store.update(0, 0, 0, 0);
        checks.due("to another value", store.changes(), 2);
        store.update(0, 0, 0, 0);
        checks.due("to the value that it has", store.changes(), 3);
        store.update(0, 0, 1, NULL);
        store.update(0, 0, 1, NULL);
        checks.due("twice to NULL", store.changes(), 5);
        checks.due("rollBack()", store.rollBack(), 5);
    }

    @Sentence(CHANGES)
    static void section4_eachColumnSetBySetNull(Checks checks) {
        ForeignKeyStore store = empty();
        store.define(1, 0, 0, SET_NULL, false);
        store.define(1, 1, 0, SET_NULL, false);
        store.insert(0, 0, NULL, NULL);
        store.insert(1, 0, 0, 0);
        store.insert(1, 1, NULL, 0);
        store.insert(1, 2, NULL, NULL);
        store.commit();
        store.delete(0, 0);
        checks.due("three columns and a row", store.changes(), 4);
    }

    @Sentence(CHANGES)
    static void section4_whatIsNoChange(Checks checks) {
        ForeignKeyStore store = empty();
        store.define(1, 0, 0, NO_ACTION, false);
        store.savePoint();
        store.setMode(1, 0, true);
        store.setMode(1, 0, false);
        store.insert(1, 0, 0, NULL);
        store.ifDeleted(1, 0);
        store.appendText('c');
        store.rollBackTo(0);
        store.drop(1, 0);
        checks.due("changes()", store.changes(), 0);
    }

    @Sentence("To undo changes means to undo them one by one, the latest one first.")
    static void section4_theLatestChangeFirst(Checks checks) {
        ForeignKeyStore store = empty();
        store.insert(0, 0, 1, 2);
        store.commit();
        store.update(0, 0, 0, 3);
        store.update(0, 0, 0, 4);
        store.update(0, 0, 1, NULL);
        store.delete(0, 0);
        store.insert(0, 0, 5, 6);
        store.delete(0, 0);
        checks.due("rollBack()", store.rollBack(), 6);
        checks.due("the row as it was first", row(store, 0, 0), "1 2");
    }

    @Sentence("To undo changes means to undo them one by one, the latest one first.")
    static void section4_undoneOneByOne(Checks checks) {
        String[] due = {"-2 -2", "1 2", "19 2", "-1 2", "-2 -2"};
        ForeignKeyStore store = empty();
        store.savePoint();
        for (int last = 4; last >= 0; last--) {
            store.insert(0, 0, 1, 2);
            pointAt(store, last, 1);
            store.update(0, 0, 0, 19);
            pointAt(store, last, 2);
            store.update(0, 0, 0, NULL);
            pointAt(store, last, 3);
            store.delete(0, 0);
            pointAt(store, last, 4);
            checks.due("undone", store.rollBackTo(last == 0 ? 0 : 1), 4 - last);
            checks.due("the row after " + last + " changes", row(store, 0, 0), due[last]);
            store.rollBackTo(0);
        }
    }

    private static void pointAt(ForeignKeyStore store, int last, int change) {
        if (last == change) {
            store.savePoint();
        }
    }

    @Sentence("A savepoint is a number of changes that the transaction had when the savepoint was made.")
    static void section4_aSavepointBeforeTheFirstChange(Checks checks) {
        ForeignKeyStore store = empty();
        store.insert(0, 5, NULL, NULL);
        store.commit();
        store.savePoint();
        checks.due("nothing to undo", store.rollBackTo(0), 0);
        store.delete(0, 5);
        store.insert(0, 6, NULL, NULL);
        checks.due("all undone", store.rollBackTo(0), 2);
        checks.due("exists(0, 5)", store.exists(0, 5), true);
        checks.due("exists(0, 6)", store.exists(0, 6), false);
        checks.due("savePoints()", store.savePoints(), 1);
    }

    @Sentence("A savepoint is a number of changes that the transaction had when the savepoint was made.")
    static void section4_savepointsAtTheSameNumber(Checks checks) {
        ForeignKeyStore store = empty();
        store.insert(0, 0, NULL, NULL);
        for (int point = 0; point < 4; point++) {
            store.savePoint();
        }
        store.insert(0, 1, NULL, NULL);
        checks.due("rollBackTo(3)", store.rollBackTo(3), 1);
        checks.due("rollBackTo(2)", store.rollBackTo(2), 0);
        store.insert(0, 1, NULL, NULL);
        checks.due("rollBackTo(0)", store.rollBackTo(0), 1);
        checks.due("rows(0)", store.rows(0), 1);
    }

    @Sentence("There are at most four savepoints; they are numbered from 0 in the order in which they were made.")
    static void section4_fourSavepoints(Checks checks) {
        ForeignKeyStore store = empty();
        for (int point = 0; point < 4; point++) {
            checks.due("savePoint()", store.savePoint(), point);
            store.insert(0, point, NULL, NULL);
        }
        checks.due("a fifth", Checks.answerOf(store::savePoint), STATE);
        checks.due("savePoints()", store.savePoints(), 4);
        for (int point = 3; point >= 0; point--) {
            checks.due("rollBackTo(" + point + ")", store.rollBackTo(point), 1);
            checks.due("rows(0)", store.rows(0), point);
        }
    }

    private static final String TO_COMMIT =
            "To commit: all constraints are checked in ascending order of their numbers, the deferred ones, too.";

    @Sentence(TO_COMMIT)
    static void section4_commitChecksDeferredConstraints(Checks checks) {
        ForeignKeyStore store = empty();
        for (int number = 7; number >= 0; number--) {
            store.define(number / 2, number % 2, 0, CASCADE, true);
        }
        for (int table = 3; table >= 0; table--) {
            store.insert(table, 19, 0, 0);
        }
        for (int number = 0; number < 8; number++) {
            checks.due("commit() violated from " + number, store.commit(), -10 - number);
            store.update(number / 2, 19, number % 2, NULL);
        }
        checks.due("commit() at last", store.commit(), 12);
    }

    @Sentence(TO_COMMIT)
    static void section4_commitChecksImmediateConstraints(Checks checks) {
        ForeignKeyStore store = violatedByRollBack();
        checks.due("commit()", store.commit(), -12);
        checks.due("changes()", store.changes(), 1);
        checks.due("the row it needs", store.insert(0, 7, NULL, NULL), 1);
        checks.due("commit() then", store.commit(), 2);
    }

    private static ForeignKeyStore busyAndViolated() {
        ForeignKeyStore store = busy();
        store.update(1, 0, 1, 19);
        return store;
    }

    @Sentence("If one is violated, the commit is refused because of the first violated one, and nothing changes: "
            + "the transaction goes on.")
    static void section4_aRefusedCommitChangesNothing(Checks checks) {
        changesNothing(checks, "commit()", -13, BoundariesOfSection4::busyAndViolated, ForeignKeyStore::commit);
        ForeignKeyStore store = busyAndViolated();
        store.commit();
        checks.due("update goes on", store.update(1, 0, 1, 0), 1);
        checks.due("a savepoint from before it", store.rollBackTo(1), 3);
        checks.due("commit() then", store.commit(), 2);
    }

    @Sentence("Otherwise the rows stay as they are, and the list of changes and the savepoints are empty.")
    static void section4_committed(Checks checks) {
        ForeignKeyStore store = busy();
        checks.due("commit()", store.commit(), 3);
        checks.due("changes()", store.changes(), 0);
        checks.due("savePoints()", store.savePoints(), 0);
        checks.due("rollBackTo(0)", Checks.answerOf(() -> store.rollBackTo(0)), INDEX);
        checks.due("a row inserted", row(store, 0, 2), "3 -1");
        checks.due("a column set", row(store, 1, 0), "0 2");
        checks.due("a row removed", row(store, 0, 1), "-2 -2");
        checks.due("rollBack()", store.rollBack(), 0);
        checks.due("a row removed, after rollBack()", row(store, 0, 1), "-2 -2");
        ForeignKeyStore empty = empty();
        empty.savePoint();
        checks.due("commit() of no change", empty.commit(), 0);
        checks.due("savePoints() then", empty.savePoints(), 0);
    }

    @Sentence("To roll back: all changes are undone; the list of changes and the savepoints are empty.")
    static void section4_rolledBack(Checks checks) {
        ForeignKeyStore store = busy();
        checks.due("rollBack()", store.rollBack(), 3);
        checks.due("changes()", store.changes(), 0);
        checks.due("savePoints()", store.savePoints(), 0);
        checks.due("rollBackTo(0)", Checks.answerOf(() -> store.rollBackTo(0)), INDEX);
        checks.due("a row inserted", row(store, 0, 2), "-2 -2");
        checks.due("a column set", row(store, 1, 0), "0 1");
        checks.due("a row removed", row(store, 0, 1), "-1 9");
        ForeignKeyStore empty = empty();
        empty.savePoint();
        checks.due("rollBack() of no change", empty.rollBack(), 0);
        checks.due("savePoints() then", empty.savePoints(), 0);
    }

    @Sentence("the latest changes are undone until there are as many changes as the savepoint tells")
    static void section4_rolledBackToASavepoint(Checks checks) {
        ForeignKeyStore store = busy();
        checks.due("rollBackTo(1)", store.rollBackTo(1), 1);
        checks.due("changes()", store.changes(), 2);
        checks.due("the change before it", row(store, 1, 0), "0 2");
        checks.due("the change behind it", row(store, 0, 1), "-1 9");
        checks.due("rollBackTo(0)", store.rollBackTo(0), 2);
        checks.due("changes() then", store.changes(), 0);
    }

    @Sentence("all savepoints with a greater number are removed")
    static void section4_greaterSavepointsAreRemoved(Checks checks) {
        for (int point = 0; point < 4; point++) {
            ForeignKeyStore store = empty();
            for (int made = 0; made < 4; made++) {
                store.savePoint();
            }
            store.rollBackTo(point);
            int next = point + 1;
            checks.due("savePoints() after rollBackTo(" + point + ")", store.savePoints(), next);
            checks.due("rollBackTo(" + next + ")", Checks.answerOf(() -> store.rollBackTo(next)), INDEX);
            Object due = next < 4 ? Integer.valueOf(next) : STATE;
            checks.due("savePoint()", Checks.answerOf(store::savePoint), due);
        }
    }

    @Sentence("all savepoints with a greater number are removed")
    static void section4_aSavepointMadeAgain(Checks checks) {
        ForeignKeyStore store = empty();
        store.savePoint();
        store.insert(0, 0, NULL, NULL);
        store.insert(0, 1, NULL, NULL);
        store.savePoint();
        store.rollBackTo(0);
        store.insert(0, 2, NULL, NULL);
        store.savePoint();
        store.insert(0, 3, NULL, NULL);
        checks.due("to the number of changes that it had the second time", store.rollBackTo(1), 1);
        checks.due("changes()", store.changes(), 1);
    }

    @Sentence("The savepoint itself stays.")
    static void section4_theSavepointStays(Checks checks) {
        ForeignKeyStore store = empty();
        store.insert(0, 0, NULL, NULL);
        store.savePoint();
        for (int time = 0; time < 3; time++) {
            store.insert(0, 1, NULL, NULL);
            checks.due("rollBackTo(0)", store.rollBackTo(0), 1);
            checks.due("savePoints()", store.savePoints(), 1);
        }
        checks.due("rows(0)", store.rows(0), 1);
    }

    private static final String NOT_UNDONE =
            "Constraints and their modes do not belong to transactions; they are not undone.";

    @Sentence(NOT_UNDONE)
    static void section4_constraintsAreNotUndone(Checks checks) {
        ForeignKeyStore store = empty();
        store.define(0, 0, 1, CASCADE, true);
        store.savePoint();
        store.define(3, 1, 2, SET_NULL, true);
        store.drop(0, 0);
        store.rollBackTo(0);
        checks.due("constraints() after rollBackTo(0)", store.constraints(), 1);
        store.rollBack();
        checks.due("constraints() after rollBack()", store.constraints(), 1);
        checks.due("the constraint defined", store.constraint(3, 1, 0), 2);
        checks.due("the constraint dropped", store.constraint(0, 0, 0), NONE);
        store.commit();
        checks.due("constraints() after commit()", store.constraints(), 1);
    }

    @Sentence(NOT_UNDONE)
    static void section4_modesAreNotUndone(Checks checks) {
        ForeignKeyStore store = empty();
        store.define(0, 0, 1, CASCADE, true);
        store.define(0, 1, 1, CASCADE, false);
        store.savePoint();
        store.insert(2, 0, NULL, NULL);
        store.setMode(0, 0, false);
        store.setMode(0, 1, true);
        store.rollBackTo(0);
        checks.due("after rollBackTo(0)", store.constraint(0, 0, 2) * 10 + store.constraint(0, 1, 2), 1);
        store.rollBack();
        checks.due("after rollBack()", store.constraint(0, 0, 2) * 10 + store.constraint(0, 1, 2), 1);
    }

    @Sentence("When changes are undone, no constraint is checked.")
    static void section4_undoingIsNotChecked(Checks checks) {
        ForeignKeyStore store = violatedByRollBack();
        checks.due("violations of the immediate constraint", store.constraint(1, 0, 3), 1);
        checks.due("its mode", store.constraint(1, 0, 2), 0);
        checks.due("changes()", store.changes(), 1);
        checks.due("rollBackTo(0) again", store.rollBackTo(0), 0);
        checks.due("rollBack()", store.rollBack(), 1);
        checks.due("violations then", store.constraint(1, 0, 3), 0);
    }
}
