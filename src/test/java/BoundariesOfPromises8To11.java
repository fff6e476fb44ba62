/** Promise 8: commit, 9: rollBack, 10: savePoint, 11: rollBackTo. */
final class BoundariesOfPromises8To11 extends Boundaries {

    // ---- Promise 8: commit

    @Sentence("Commits the transaction (section 4).")
    static void promise8_nothingIsLeftToUndo(Checks checks) {
        ForeignKeyStore store = busy();
        store.commit();
        String before = Checks.stateOf(store);
        checks.due("rollBack()", store.rollBack(), 0);
        checks.due("the state after it", Checks.stateOf(store), before);
    }

    @Sentence("Returns the number of changes that the transaction had, or the code of the refusal.")
    static void promise8_numberOfChanges(Checks checks) {
        ForeignKeyStore store = empty();
        checks.due("no change", store.commit(), 0);
        store.insert(0, 0, NULL, NULL);
        checks.due("one change", store.commit(), 1);
        store.insert(0, 1, NULL, NULL);
        store.savePoint();
        store.delete(0, 1);
        store.delete(0, 0);
        checks.due("three changes and a savepoint", store.commit(), 3);
        store.insert(0, 1, NULL, NULL);
        store.savePoint();
        store.update(0, 1, 0, 0);
        store.rollBackTo(0);
        checks.due("one of two changes undone", store.commit(), 1);
        checks.due("no change again", store.commit(), 0);
    }

    @Sentence("Returns the number of changes that the transaction had, or the code of the refusal.")
    static void promise8_aTableFullOfChanges(Checks checks) {
        ForeignKeyStore store = empty();
        fill(store, 0, 0);
        checks.due("80 rows inserted", store.commit(), 80);
        for (int change = 0; change < 300; change++) {
            store.update(change % 4, change % 20, 0, change % 20);
        }
        checks.due("300 columns set", store.commit(), 300);
    }

    private static ForeignKeyStore violated(int number) {
        ForeignKeyStore store = empty();
        store.define(number / 2, number % 2, 0, NO_ACTION, true);
        store.insert(number / 2, 1, 5, 5);
        store.savePoint();
        store.insert(0, 6, NULL, NULL);
        return store;
    }

    @Sentence("Returns the number of changes that the transaction had, or the code of the refusal.")
    static void promise8_codesFrom10To17(Checks checks) {
        for (int number = 0; number < 8; number++) {
            int violated = number;
            changesNothing(checks, "commit() violated by " + number, -10 - number, () -> violated(violated),
                    ForeignKeyStore::commit);
        }
    }

    // ---- Promise 9: rollBack

    @Sentence("Rolls the transaction back.")
    static void promise9_everythingIsAsAtTheBegin(Checks checks) {
        ForeignKeyStore store = busy();
        store.rollBack();
        ForeignKeyStore quiet = quiet();
        quiet.rollBack();
        checks.due("the state", traceOf(store), traceOf(quiet));
    }

    @Sentence("Returns the number of changes that are undone.")
    static void promise9_numberOfChanges(Checks checks) {
        ForeignKeyStore store = empty();
        checks.due("no change", store.rollBack(), 0);
        store.insert(0, 0, NULL, NULL);
        checks.due("one change", store.rollBack(), 1);
        checks.due("no change again", store.rollBack(), 0);
        store.insert(0, 0, NULL, NULL);
        store.savePoint();
        store.insert(0, 1, NULL, NULL);
        store.insert(0, 2, NULL, NULL);
        store.rollBackTo(0);
        store.update(0, 0, 0, 0);
        checks.due("two of four changes are left", store.rollBack(), 2);
        store.define(0, 0, 0, SET_NULL, false);
        store.define(1, 0, 0, CASCADE, false);
        store.insert(0, 0, NULL, NULL);
        store.insert(0, 1, 0, NULL);
        store.insert(1, 0, 0, NULL);
        store.delete(0, 0);
        checks.due("three changes by a deletion", store.rollBack(), 6);
    }

    @Sentence("Returns the number of changes that are undone.")
    static void promise9_aTableFullOfChanges(Checks checks) {
        ForeignKeyStore store = empty();
        fill(store, 19, 0);
        store.commit();
        for (int change = 0; change < 400; change++) {
            store.update(change % 4, change % 20, 1, change % 19);
        }
        checks.due("400 columns set", store.rollBack(), 400);
        checks.due("the first row", row(store, 0, 0), "19 0");
        checks.due("the last row", row(store, 3, 19), "19 0");
    }

    // ---- Promise 10: savePoint

    @Sentence("Makes a savepoint.")
    static void promise10_oneMore(Checks checks) {
        ForeignKeyStore store = empty();
        store.insert(0, 0, NULL, NULL);
        store.savePoint();
        checks.due("savePoints()", store.savePoints(), 1);
        checks.due("changes()", store.changes(), 1);
        store.insert(0, 1, NULL, NULL);
        checks.due("rollBackTo(0)", store.rollBackTo(0), 1);
    }

    @Sentence("Returns its number.")
    static void promise10_numbersFrom0To3(Checks checks) {
        ForeignKeyStore store = empty();
        for (int point = 0; point < 4; point++) {
            checks.due("savePoint()", store.savePoint(), point);
        }
        store.rollBackTo(2);
        checks.due("after rollBackTo(2)", store.savePoint(), 3);
        store.rollBackTo(0);
        checks.due("after rollBackTo(0)", store.savePoint(), 1);
        store.rollBack();
        checks.due("after rollBack()", store.savePoint(), 0);
        store.commit();
        checks.due("after commit()", store.savePoint(), 0);
    }

    private static ForeignKeyStore fourSavepoints() {
        ForeignKeyStore store = busy();
        store.savePoint();
        store.savePoint();
        return store;
    }

    @Sentence("Throws `IllegalStateException` if there are four savepoints")
    static void promise10_fourSavepoints(Checks checks) {
        changesNothing(checks, "a fifth", STATE, BoundariesOfPromises8To11::fourSavepoints,
                ForeignKeyStore::savePoint);
        changesNothing(checks, "a fifth with more changes", STATE, BoundariesOfPromises8To11::fourSavepoints,
                s -> s.delete(2, 3) * s.rollBackTo(3) * s.savePoint());
        ForeignKeyStore store = fourSavepoints();
        store.rollBackTo(2);
        checks.due("three savepoints", store.savePoint(), 3);
        checks.due("four again", Checks.answerOf(store::savePoint), STATE);
    }

    // ---- Promise 11: rollBackTo

    @Sentence("Rolls the transaction back to a savepoint.")
    static void promise11_theStateOfTheSavepoint(Checks checks) {
        ForeignKeyStore store = busy();
        store.rollBackTo(0);
        checks.due("the state", traceOf(store), traceOf(quiet()));
    }

    @Sentence("`point`: the number of the savepoint")
    static void promise11_points0To3(Checks checks) {
        for (int point = 0; point < 4; point++) {
            ForeignKeyStore store = empty();
            for (int made = 0; made < 4; made++) {
                store.insert(0, made, NULL, NULL);
                store.savePoint();
            }
            store.insert(0, 4, NULL, NULL);
            checks.due("rollBackTo(" + point + ")", store.rollBackTo(point), 4 - point);
            checks.due("rows(0)", store.rows(0), point + 1);
        }
        for (int point : beyond(0, 1)) {
            changesNothing(checks, "rollBackTo(" + point + ")", INDEX, Boundaries::busy, s -> s.rollBackTo(point));
        }
    }

    @Sentence("Returns the number of changes that are undone.")
    static void promise11_numberOfChanges(Checks checks) {
        ForeignKeyStore store = empty();
        store.insert(0, 0, NULL, NULL);
        store.savePoint();
        checks.due("no change", store.rollBackTo(0), 0);
        store.update(0, 0, 0, NULL);
        checks.due("one change", store.rollBackTo(0), 1);
        for (int change = 0; change < 300; change++) {
            store.update(0, 0, 0, change % 20);
        }
        checks.due("300 changes", store.rollBackTo(0), 300);
        checks.due("changes()", store.changes(), 1);
    }

    @Sentence("Throws `IndexOutOfBoundsException` if there is no such savepoint")
    static void promise11_noSuchSavepoint(Checks checks) {
        changesNothing(checks, "0 of none", INDEX, Boundaries::empty, s -> s.rollBackTo(0));
        changesNothing(checks, "2 of two", INDEX, Boundaries::busy, s -> s.rollBackTo(2));
        changesNothing(checks, "-1 of two", INDEX, Boundaries::busy, s -> s.rollBackTo(-1));
        changesNothing(checks, "4 of four", INDEX, BoundariesOfPromises8To11::fourSavepoints,
                s -> s.rollBackTo(4));
        changesNothing(checks, "-1 of four", INDEX, BoundariesOfPromises8To11::fourSavepoints,
                s -> s.rollBackTo(-1));
        checks.due("3 of four", fourSavepoints().rollBackTo(3), 0);
        ForeignKeyStore store = fourSavepoints();
        store.rollBackTo(1);
        checks.due("one that was removed", Checks.answerOf(() -> store.rollBackTo(2)), INDEX);
        store.commit();
        checks.due("after commit()", Checks.answerOf(() -> store.rollBackTo(0)), INDEX);
        store.savePoint();
        store.rollBack();
        checks.due("after rollBack()", Checks.answerOf(() -> store.rollBackTo(0)), INDEX);
    }
}
