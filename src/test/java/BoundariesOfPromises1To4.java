/** Promise 1: A new object, 2: define, 3: drop, 4: setMode. */
final class BoundariesOfPromises1To4 extends Boundaries {

    // ---- Promise 1: A new object

    @Sentence("`ForeignKeyStore()`: Creates a store without rows and constraints.")
    static void promise1_noRows(Checks checks) {
        ForeignKeyStore store = empty();
        for (int table = 0; table < 4; table++) {
            checks.due("rows(" + table + ")", store.rows(table), 0);
            for (int key = 0; key < 20; key++) {
                checks.due("exists(" + table + ", " + key + ")", store.exists(table, key), false);
                checks.due("the row " + table + ", " + key, row(store, table, key), "-2 -2");
            }
        }
    }

    @Sentence("`ForeignKeyStore()`: Creates a store without rows and constraints.")
    static void promise1_noConstraints(Checks checks) {
        ForeignKeyStore store = empty();
        checks.due("constraints()", store.constraints(), 0);
        checks.due("firstViolation()", store.firstViolation(), 0);
        for (int number = 0; number < 8; number++) {
            for (int part = 0; part < 4; part++) {
                checks.due("constraint " + number + ", part " + part,
                        store.constraint(number / 2, number % 2, part), NONE);
            }
        }
    }

    @Sentence("`ForeignKeyStore()`: Creates a store without rows and constraints.")
    static void promise1_nothingElse(Checks checks) {
        busy();
        ForeignKeyStore store = empty();
        checks.due("changes() beside another store", store.changes(), 0);
        checks.due("savePoints()", store.savePoints(), 0);
        checks.due("textLength()", store.textLength(), 0);
        checks.due("the state", traceOf(store), traceOf(empty()));
    }

    // ---- Promise 2: define

    @Sentence("Defines a constraint.")
    static void promise2_aConstraintIsInForce(Checks checks) {
        ForeignKeyStore store = empty();
        store.define(2, 1, 3, CASCADE, false);
        checks.due("the parts", store.constraint(2, 1, 0) * 100 + store.constraint(2, 1, 1) * 10
                + store.constraint(2, 1, 2), 320);
        checks.due("insert", store.insert(2, 0, NULL, 0), -15);
        checks.due("the other column", store.constraint(2, 0, 0), NONE);
        checks.due("changes()", store.changes(), 0);
    }

    @Sentence("`table`: the table of the constraint, 0 to 3")
    static void promise2_table0To3(Checks checks) {
        for (int table = 0; table < 4; table++) {
            ForeignKeyStore store = empty();
            checks.due("define in " + table, store.define(table, 1, 0, CASCADE, true), 1);
            checks.due("its action", store.constraint(table, 1, 1), CASCADE);
        }
        throwsBeyond(checks, INDEX, 0, 3, "define, table", (s, t) -> s.define(t, 0, 0, CASCADE, true));
    }

    @Sentence("`column`: the column of the constraint, 0 or 1")
    static void promise2_column0Or1(Checks checks) {
        for (int column = 0; column < 2; column++) {
            ForeignKeyStore store = empty();
            checks.due("define in " + column, store.define(3, column, 0, CASCADE, true), 1);
            checks.due("its action", store.constraint(3, column, 1), CASCADE);
            checks.due("the other column", store.constraint(3, 1 - column, 1), NONE);
        }
        throwsBeyond(checks, INDEX, 0, 1, "define, column", (s, c) -> s.define(3, c, 0, CASCADE, true));
    }

    @Sentence("`parent`: the parent table, 0 to 3")
    static void promise2_parent0To3(Checks checks) {
        for (int parent = 0; parent < 4; parent++) {
            ForeignKeyStore store = empty();
            checks.due("define with " + parent, store.define(0, 0, parent, CASCADE, true), 1);
            checks.due("its parent", store.constraint(0, 0, 0), parent);
        }
        throwsBeyond(checks, INDEX, 0, 3, "define, parent", (s, p) -> s.define(3, 0, p, CASCADE, true));
    }

    @Sentence("`action`: RESTRICT, NO_ACTION, CASCADE or SET_NULL")
    static void promise2_actionsRestrictToSetNull(Checks checks) {
        for (int action = RESTRICT; action <= SET_NULL; action++) {
            ForeignKeyStore store = empty();
            checks.due("define with " + action, store.define(0, 0, 1, action, true), 1);
            checks.due("its action", store.constraint(0, 0, 1), action);
        }
        throwsBeyond(checks, ARGUMENT, 0, 3, "define, action", (s, a) -> s.define(3, 0, 0, a, true));
    }

    @Sentence("`deferred`: true if its mode is deferred, false if it is immediate")
    static void promise2_deferredOrImmediate(Checks checks) {
        ForeignKeyStore store = empty();
        store.define(0, 0, 1, CASCADE, true);
        store.define(0, 1, 1, CASCADE, false);
        checks.due("the mode of the first", store.constraint(0, 0, 2), 1);
        checks.due("the mode of the second", store.constraint(0, 1, 2), 0);
        checks.due("the second is checked", store.insert(0, 0, 5, 5), -11);
        checks.due("the first is not", store.insert(0, 0, 5, NULL), 1);
    }

    @Sentence("Returns the number of constraints after the call.")
    static void promise2_from1To8Constraints(Checks checks) {
        ForeignKeyStore store = empty();
        for (int number = 7; number >= 0; number--) {
            checks.due("define", store.define(number / 2, number % 2, 0, RESTRICT, false), 8 - number);
        }
        checks.due("constraints()", store.constraints(), 8);
    }

    @Sentence("Throws `IndexOutOfBoundsException` if there is no such table, column or parent table")
    static void promise2_noSuchTableColumnOrParent(Checks checks) {
        changesNothing(checks, "table -1", INDEX, Boundaries::quiet, s -> s.define(-1, 0, 0, CASCADE, true));
        changesNothing(checks, "table 4", INDEX, Boundaries::quiet, s -> s.define(4, 0, 0, CASCADE, true));
        changesNothing(checks, "column -1", INDEX, Boundaries::quiet, s -> s.define(3, -1, 0, CASCADE, true));
        changesNothing(checks, "column 2", INDEX, Boundaries::quiet, s -> s.define(2, 2, 0, CASCADE, true));
        changesNothing(checks, "parent -1", INDEX, Boundaries::quiet, s -> s.define(3, 0, -1, CASCADE, true));
        changesNothing(checks, "parent 4", INDEX, Boundaries::quiet, s -> s.define(3, 0, 4, CASCADE, true));
    }

    @Sentence("Throws `IllegalArgumentException` if there is no such action")
    static void promise2_noSuchAction(Checks checks) {
        changesNothing(checks, "action -1", ARGUMENT, Boundaries::quiet, s -> s.define(3, 0, 0, -1, true));
        changesNothing(checks, "action 4", ARGUMENT, Boundaries::quiet, s -> s.define(3, 0, 0, 4, true));
        changesNothing(checks, "NONE", ARGUMENT, Boundaries::quiet, s -> s.define(3, 0, 0, NONE, true));
    }

    private static ForeignKeyStore withOneChange() {
        ForeignKeyStore store = quiet();
        store.update(0, 0, 0, NULL);
        return store;
    }

    private static ForeignKeyStore withChangesThatCancelOut() {
        ForeignKeyStore store = quiet();
        store.insert(3, 5, NULL, NULL);
        store.delete(3, 5);
        return store;
    }

    private static ForeignKeyStore withAllChangesUndone() {
        ForeignKeyStore store = withOneChange();
        store.rollBackTo(0);
        return store;
    }

    @Sentence("if the transaction has changes, if the table and the column have a constraint")
    static void promise2_withChanges(Checks checks) {
        changesNothing(checks, "one change", STATE, BoundariesOfPromises1To4::withOneChange,
                s -> s.define(3, 0, 0, CASCADE, true));
        changesNothing(checks, "changes that cancel out", STATE,
                BoundariesOfPromises1To4::withChangesThatCancelOut, s -> s.define(3, 0, 0, CASCADE, true));
        checks.due("a savepoint, but no change", quiet().define(3, 0, 0, CASCADE, true), 4);
        checks.due("all changes undone", withAllChangesUndone().define(3, 0, 0, CASCADE, true), 4);
        ForeignKeyStore store = withOneChange();
        store.commit();
        checks.due("after commit()", store.define(3, 0, 0, CASCADE, true), 4);
        store.insert(0, 9, NULL, NULL);
        store.rollBack();
        checks.due("after rollBack()", store.define(3, 1, 0, CASCADE, true), 5);
    }

    @Sentence("if the table and the column have a constraint, or if the new constraint would be violated")
    static void promise2_withAConstraint(Checks checks) {
        changesNothing(checks, "the same again", STATE, Boundaries::quiet, s -> s.define(1, 0, 0, CASCADE, false));
        changesNothing(checks, "another parent", STATE, Boundaries::quiet, s -> s.define(1, 0, 1, CASCADE, false));
        changesNothing(checks, "another action", STATE, Boundaries::quiet, s -> s.define(1, 0, 0, SET_NULL, false));
        changesNothing(checks, "another mode", STATE, Boundaries::quiet, s -> s.define(1, 0, 0, CASCADE, true));
        checks.due("another column", quiet().define(2, 1, 1, RESTRICT, false), 4);
        checks.due("another table", quiet().define(0, 0, 0, CASCADE, false), 4);
        ForeignKeyStore store = quiet();
        store.drop(1, 0);
        checks.due("dropped before", store.define(1, 0, 0, SET_NULL, true), 3);
    }

    private static ForeignKeyStore fullButForOneRow() {
        ForeignKeyStore store = empty();
        for (int key = 0; key < 19; key++) {
            store.insert(1, key, NULL, NULL);
            store.insert(0, key, key, key + 1);
        }
        store.insert(0, 19, NULL, 19);
        store.commit();
        return store;
    }

    @Sentence("or if the new constraint would be violated")
    static void promise2_violated(Checks checks) {
        changesNothing(checks, "two of twenty rows violate it", STATE,
                BoundariesOfPromises1To4::fullButForOneRow, s -> s.define(0, 1, 1, CASCADE, false));
        changesNothing(checks, "deferred", STATE, BoundariesOfPromises1To4::fullButForOneRow,
                s -> s.define(0, 1, 1, CASCADE, true));
        changesNothing(checks, "a parent table without rows", STATE,
                BoundariesOfPromises1To4::fullButForOneRow, s -> s.define(0, 0, 2, CASCADE, true));
        checks.due("no row violates it", fullButForOneRow().define(0, 0, 1, CASCADE, false), 1);
        checks.due("the table itself", fullButForOneRow().define(0, 1, 0, CASCADE, false), 1);
        checks.due("a table of NULLs", fullButForOneRow().define(1, 1, 2, CASCADE, false), 1);
        checks.due("a table without rows", fullButForOneRow().define(3, 1, 2, CASCADE, false), 1);
    }

    @Sentence("or if the new constraint would be violated")
    static void promise2_violatedByTheFirstOrTheLastRow(Checks checks) {
        for (int key = 0; key < 20; key += 19) {
            for (int value = 0; value < 20; value += 19) {
                ForeignKeyStore store = empty();
                store.insert(3, key, NULL, value);
                store.commit();
                checks.due("row " + key + ", value " + value,
                        Checks.answerOf(() -> store.define(3, 1, 2, CASCADE, true)), STATE);
                checks.due("constraints()", store.constraints(), 0);
                store.insert(2, value, NULL, NULL);
                store.commit();
                checks.due("with its parent row", store.define(3, 1, 2, CASCADE, true), 1);
            }
        }
    }

    // ---- Promise 3: drop

    @Sentence("Removes a constraint.")
    static void promise3_aConstraintIsNoLongerInForce(Checks checks) {
        ForeignKeyStore store = quiet();
        store.drop(1, 0);
        for (int part = 0; part < 4; part++) {
            checks.due("part " + part, store.constraint(1, 0, part), NONE);
        }
        checks.due("insert is not checked", store.insert(1, 1, 19, NULL), 1);
        checks.due("references(0, 0)", store.references(0, 0), 0);
        checks.due("delete does not cascade", store.delete(0, 0), 1);
        checks.due("commit()", store.commit(), 2);
        checks.due("the constraint 3 stays", store.constraint(1, 1, 1), SET_NULL);
        checks.due("the constraint 4 stays", store.constraint(2, 0, 1), RESTRICT);
    }

    @Sentence("`table`: 0 to 3")
    static void promise3_table0To3(Checks checks) {
        for (int table = 0; table < 4; table++) {
            ForeignKeyStore store = empty();
            store.define(table, 0, 0, CASCADE, true);
            checks.due("drop in " + table, store.drop(table, 0), 0);
        }
        throwsBeyond(checks, INDEX, 0, 3, "drop, table", (s, t) -> s.drop(t, 0));
    }

    @Sentence("`column`: 0 or 1")
    static void promise3_column0Or1(Checks checks) {
        for (int column = 0; column < 2; column++) {
            ForeignKeyStore store = empty();
            store.define(3, column, 0, CASCADE, true);
            int other = 1 - column;
            checks.due("drop of the other column", Checks.answerOf(() -> store.drop(3, other)), STATE);
            checks.due("drop in " + column, store.drop(3, column), 0);
        }
        throwsBeyond(checks, INDEX, 0, 1, "drop, column", (s, c) -> s.drop(1, c));
    }

    @Sentence("Returns the number of constraints after the call.")
    static void promise3_from7To0Constraints(Checks checks) {
        ForeignKeyStore store = empty();
        for (int number = 0; number < 8; number++) {
            store.define(number / 2, number % 2, 0, RESTRICT, false);
        }
        for (int number = 0; number < 8; number++) {
            checks.due("drop", store.drop(number / 2, number % 2), 7 - number);
        }
        checks.due("constraints()", store.constraints(), 0);
        checks.due("define again", store.define(0, 0, 0, RESTRICT, false), 1);
    }

    @Sentence("Throws `IndexOutOfBoundsException` if there is no such table or column")
    static void promise3_noSuchTableOrColumn(Checks checks) {
        changesNothing(checks, "table -1", INDEX, Boundaries::quiet, s -> s.drop(-1, 0));
        changesNothing(checks, "table 4", INDEX, Boundaries::quiet, s -> s.drop(4, 0));
        changesNothing(checks, "column -1", INDEX, Boundaries::quiet, s -> s.drop(2, -1));
        changesNothing(checks, "column 2", INDEX, Boundaries::quiet, s -> s.drop(1, 2));
    }

    @Sentence("Throws `IllegalStateException` if the transaction has changes")
    static void promise3_withChanges(Checks checks) {
        changesNothing(checks, "one change", STATE, BoundariesOfPromises1To4::withOneChange, s -> s.drop(1, 0));
        changesNothing(checks, "changes that cancel out", STATE,
                BoundariesOfPromises1To4::withChangesThatCancelOut, s -> s.drop(1, 0));
        checks.due("a savepoint, but no change", quiet().drop(1, 0), 2);
        checks.due("all changes undone", withAllChangesUndone().drop(1, 0), 2);
        ForeignKeyStore store = withOneChange();
        store.commit();
        checks.due("after commit()", store.drop(1, 0), 2);
        store.insert(0, 9, NULL, NULL);
        store.rollBack();
        checks.due("after rollBack()", store.drop(1, 1), 1);
    }

    @Sentence("or if there is no such constraint")
    static void promise3_noSuchConstraint(Checks checks) {
        changesNothing(checks, "no constraint at all", STATE, Boundaries::empty, s -> s.drop(0, 0));
        changesNothing(checks, "another column", STATE, Boundaries::quiet, s -> s.drop(2, 1));
        changesNothing(checks, "the parent table", STATE, Boundaries::quiet, s -> s.drop(0, 0));
        ForeignKeyStore store = quiet();
        store.drop(1, 0);
        checks.due("dropped already", Checks.answerOf(() -> store.drop(1, 0)), STATE);
        checks.due("constraints()", store.constraints(), 2);
    }

    // ---- Promise 4: setMode

    @Sentence("Sets the mode of a constraint.")
    static void promise4_theModeIsInForce(Checks checks) {
        ForeignKeyStore store = empty();
        store.define(3, 1, 0, NO_ACTION, false);
        store.define(3, 0, 0, NO_ACTION, false);
        checks.due("to deferred", store.setMode(3, 1, true), 1);
        checks.due("the mode", store.constraint(3, 1, 2), 1);
        checks.due("the mode of the other constraint", store.constraint(3, 0, 2), 0);
        checks.due("insert", store.insert(3, 0, NULL, 0), 1);
        store.insert(0, 0, NULL, NULL);
        checks.due("to immediate", store.setMode(3, 1, false), 1);
        checks.due("the mode then", store.constraint(3, 1, 2), 0);
        checks.due("insert then", store.insert(3, 1, NULL, 1), -17);
        checks.due("the other parts", store.constraint(3, 1, 0) * 10 + store.constraint(3, 1, 1), NO_ACTION);
    }

    private static ForeignKeyStore deferredAndViolated() {
        ForeignKeyStore store = busy();
        store.update(1, 0, 1, 19);
        return store;
    }

    private static final String NOTHING_CHANGES =
            "If the mode would become immediate and the constraint is violated, nothing changes.";

    @Sentence(NOTHING_CHANGES)
    static void promise4_toImmediateWhenViolated(Checks checks) {
        changesNothing(checks, "setMode", -13, BoundariesOfPromises1To4::deferredAndViolated,
                s -> s.setMode(1, 1, false));
        ForeignKeyStore store = deferredAndViolated();
        store.update(1, 0, 1, NULL);
        checks.due("not violated any more", store.setMode(1, 1, false), 1);
    }

    @Sentence(NOTHING_CHANGES)
    static void promise4_whenAnotherConstraintIsViolated(Checks checks) {
        ForeignKeyStore store = empty();
        store.define(0, 0, 1, NO_ACTION, true);
        store.define(0, 1, 1, NO_ACTION, true);
        store.insert(0, 0, 5, NULL);
        checks.due("the one that is not violated", store.setMode(0, 1, false), 1);
        checks.due("the one that is violated", store.setMode(0, 0, false), -10);
        checks.due("the mode of the first", store.constraint(0, 1, 2), 0);
        checks.due("the mode of the second", store.constraint(0, 0, 2), 1);
    }

    @Sentence(NOTHING_CHANGES)
    static void promise4_violatedByOneRowOfTwenty(Checks checks) {
        ForeignKeyStore store = empty();
        store.define(2, 0, 1, NO_ACTION, true);
        store.insert(1, 0, NULL, NULL);
        for (int key = 0; key < 19; key++) {
            store.insert(2, key, 0, 7);
        }
        store.insert(2, 19, 19, NULL);
        checks.due("the last row violates it", store.setMode(2, 0, false), -14);
        store.update(2, 19, 0, NULL);
        checks.due("no row violates it", store.setMode(2, 0, false), 1);
    }

    @Sentence("`table`: 0 to 3")
    static void promise4_table0To3(Checks checks) {
        for (int table = 0; table < 4; table++) {
            ForeignKeyStore store = empty();
            store.define(table, 0, 0, CASCADE, true);
            checks.due("setMode in " + table, store.setMode(table, 0, false), 1);
        }
        throwsBeyond(checks, INDEX, 0, 3, "setMode, table", (s, t) -> s.setMode(t, 0, true));
    }

    @Sentence("`column`: 0 or 1")
    static void promise4_column0Or1(Checks checks) {
        for (int column = 0; column < 2; column++) {
            ForeignKeyStore store = empty();
            store.define(3, column, 0, CASCADE, true);
            checks.due("setMode in " + column, store.setMode(3, column, false), 1);
        }
        throwsBeyond(checks, INDEX, 0, 1, "setMode, column", (s, c) -> s.setMode(1, c, true));
    }

    @Sentence("`deferred`: true for deferred, false for immediate")
    static void promise4_deferredOrImmediate(Checks checks) {
        ForeignKeyStore store = quiet();
        store.setMode(1, 0, true);
        store.setMode(1, 1, false);
        checks.due("true", store.constraint(1, 0, 2), 1);
        checks.due("false", store.constraint(1, 1, 2), 0);
    }

    @Sentence("Returns 1 if the mode changes, 0 if it is this mode already")
    static void promise4_changesOrIsThisModeAlready(Checks checks) {
        ForeignKeyStore store = quiet();
        checks.due("immediate already", store.setMode(1, 0, false), 0);
        checks.due("to deferred", store.setMode(1, 0, true), 1);
        checks.due("deferred already", store.setMode(1, 0, true), 0);
        checks.due("to immediate", store.setMode(1, 0, false), 1);
        checks.due("immediate already, again", store.setMode(1, 0, false), 0);
        changesNothing(checks, "deferred already, violated", 0,
                BoundariesOfPromises1To4::deferredAndViolated, s -> s.setMode(1, 1, true));
        changesNothing(checks, "immediate already, violated", 0, Boundaries::violatedByRollBack,
                s -> s.setMode(1, 0, false));
        checks.due("to deferred, violated", violatedByRollBack().setMode(1, 0, true), 1);
    }

    @Sentence("if nothing changes because the constraint is violated: the code of a refusal because of it")
    static void promise4_codesFrom10To17(Checks checks) {
        for (int number = 0; number < 8; number++) {
            int table = number / 2;
            int column = number % 2;
            ForeignKeyStore store = empty();
            store.define(table, column, (table + 1) % 4, CASCADE, true);
            store.insert(table, 0, 0, 0);
            checks.due("setMode of " + number, store.setMode(table, column, false), -10 - number);
        }
    }

    @Sentence("Throws `IndexOutOfBoundsException` if there is no such table or column")
    static void promise4_noSuchTableOrColumn(Checks checks) {
        changesNothing(checks, "table -1", INDEX, Boundaries::busy, s -> s.setMode(-1, 0, true));
        changesNothing(checks, "table 4", INDEX, Boundaries::busy, s -> s.setMode(4, 0, true));
        changesNothing(checks, "column -1", INDEX, Boundaries::busy, s -> s.setMode(1, -1, true));
        changesNothing(checks, "column 2", INDEX, Boundaries::busy, s -> s.setMode(1, 2, true));
    }

    @Sentence("Throws `IllegalStateException` if there is no such constraint")
    static void promise4_noSuchConstraint(Checks checks) {
        changesNothing(checks, "no constraint at all", STATE, Boundaries::empty, s -> s.setMode(0, 0, false));
        changesNothing(checks, "to deferred", STATE, Boundaries::busy, s -> s.setMode(2, 1, true));
        changesNothing(checks, "to immediate", STATE, Boundaries::busy, s -> s.setMode(2, 1, false));
        ForeignKeyStore store = quiet();
        store.drop(1, 1);
        checks.due("dropped", Checks.answerOf(() -> store.setMode(1, 1, false)), STATE);
    }
}
