/** Of "Terms": 6. EXCEPTIONS, and what stands behind it: the constants and the interface. */
final class BoundariesOfSection6 extends Boundaries {

    private static final String NOTHING = "A call that throws an exception changes nothing.";

    private static ForeignKeyStore fullOfSavepoints() {
        ForeignKeyStore store = busy();
        store.savePoint();
        store.insert(3, 0, NULL, NULL);
        store.savePoint();
        return store;
    }

    private static ForeignKeyStore fullOfText() {
        ForeignKeyStore store = busy();
        store.clearText();
        Checks.write(store, "c;".repeat(38) + "d0,0");
        return store;
    }

    @Sentence(NOTHING)
    static void section6_constraintsAfterExceptions(Checks checks) {
        changesNothing(checks, "define, index", INDEX, Boundaries::quiet, s -> s.define(0, 2, 0, CASCADE, true));
        changesNothing(checks, "define, argument", ARGUMENT, Boundaries::quiet, s -> s.define(0, 0, 0, 4, true));
        changesNothing(checks, "define, state", STATE, Boundaries::quiet, s -> s.define(1, 0, 2, SET_NULL, true));
        changesNothing(checks, "drop, index", INDEX, Boundaries::quiet, s -> s.drop(1, 2));
        changesNothing(checks, "drop, state", STATE, Boundaries::busy, s -> s.drop(1, 0));
        changesNothing(checks, "setMode, index", INDEX, Boundaries::busy, s -> s.setMode(4, 0, true));
        changesNothing(checks, "setMode, state", STATE, Boundaries::busy, s -> s.setMode(2, 1, true));
    }

    @Sentence(NOTHING)
    static void section6_statementsAfterExceptions(Checks checks) {
        changesNothing(checks, "insert, index", INDEX, Boundaries::busy, s -> s.insert(0, 20, NULL, NULL));
        changesNothing(checks, "insert, argument", ARGUMENT, Boundaries::busy, s -> s.insert(0, 5, NULL, 20));
        changesNothing(checks, "insert, state", STATE, Boundaries::busy, s -> s.insert(0, 0, 5, 5));
        changesNothing(checks, "update, index", INDEX, Boundaries::busy, s -> s.update(0, 0, 2, NULL));
        changesNothing(checks, "update, argument", ARGUMENT, Boundaries::busy, s -> s.update(0, 0, 0, 20));
        changesNothing(checks, "update, state", STATE, Boundaries::busy, s -> s.update(0, 5, 0, 5));
        changesNothing(checks, "delete, index", INDEX, Boundaries::busy, s -> s.delete(0, -1));
        changesNothing(checks, "delete, state", STATE, Boundaries::busy, s -> s.delete(0, 1));
    }

    @Sentence(NOTHING)
    static void section6_transactionsAfterExceptions(Checks checks) {
        changesNothing(checks, "savePoint, state", STATE, BoundariesOfSection6::fullOfSavepoints,
                ForeignKeyStore::savePoint);
        changesNothing(checks, "rollBackTo, index", INDEX, Boundaries::busy, s -> s.rollBackTo(2));
        changesNothing(checks, "rollBackTo, index below", INDEX, Boundaries::busy, s -> s.rollBackTo(-1));
    }

    @Sentence(NOTHING)
    static void section6_textsAfterExceptions(Checks checks) {
        changesNothing(checks, "appendText, argument", ARGUMENT, Boundaries::busy, s -> s.appendText(127));
        changesNothing(checks, "appendText, state", STATE, BoundariesOfSection6::fullOfText,
                s -> s.appendText('1'));
        changesNothing(checks, "runText, state", STATE, Boundaries::busy, ForeignKeyStore::runText);
    }

    @Sentence(NOTHING)
    static void section6_queriesAfterExceptions(Checks checks) {
        changesNothing(checks, "exists", INDEX, Boundaries::busy, s -> s.exists(0, 20));
        changesNothing(checks, "value", INDEX, Boundaries::busy, s -> s.value(0, 0, 2));
        changesNothing(checks, "rows", INDEX, Boundaries::busy, s -> s.rows(4));
        changesNothing(checks, "references", INDEX, Boundaries::busy, s -> s.references(4, 0));
        changesNothing(checks, "ancestors", INDEX, Boundaries::busy, s -> s.ancestors(0, 20));
        changesNothing(checks, "constraint, index", INDEX, Boundaries::busy, s -> s.constraint(0, 2, 0));
        changesNothing(checks, "constraint, argument", ARGUMENT, Boundaries::busy, s -> s.constraint(1, 0, 4));
        changesNothing(checks, "ifDeleted", INDEX, Boundaries::busy, s -> s.ifDeleted(-1, 0));
    }

    @Sentence(NOTHING)
    static void section6_afterManyExceptions(Checks checks) {
        ForeignKeyStore store = busy();
        for (int time = 0; time < 90; time++) {
            checks.due("insert", Checks.answerOf(() -> store.insert(0, 0, NULL, NULL)), STATE);
            checks.due("runText", Checks.answerOf(store::runText), STATE);
        }
        checks.due("the state", traceOf(store), traceOf(busy()));
    }

    private static final String FIRST_NAMED = "If several exceptions apply to a call, the one that is named first "
            + "in the throws clause of the method is thrown.";

    @Sentence(FIRST_NAMED)
    static void section6_severalForDefine(Checks checks) {
        changesNothing(checks, "all three", INDEX, Boundaries::busy, s -> s.define(1, 0, 4, 4, true));
        changesNothing(checks, "table and action", INDEX, Boundaries::quiet, s -> s.define(4, 0, 0, -1, true));
        changesNothing(checks, "column and action", INDEX, Boundaries::quiet, s -> s.define(0, 2, 0, 4, true));
        changesNothing(checks, "parent and action", INDEX, Boundaries::quiet, s -> s.define(0, 0, -1, 4, true));
        changesNothing(checks, "table and changes", INDEX, Boundaries::busy, s -> s.define(-1, 0, 0, 0, true));
        changesNothing(checks, "parent and constraint", INDEX, Boundaries::quiet, s -> s.define(1, 0, 4, 0, true));
        changesNothing(checks, "parent and violation", INDEX, Boundaries::quiet, s -> s.define(0, 1, 4, 0, true));
        changesNothing(checks, "action and changes", ARGUMENT, Boundaries::busy, s -> s.define(3, 0, 0, 4, true));
        changesNothing(checks, "action and constraint", ARGUMENT, Boundaries::quiet, s -> s.define(1, 0, 0, 4, true));
        changesNothing(checks, "action and violation", ARGUMENT, Boundaries::quiet, s -> s.define(0, 1, 0, -1, true));
        changesNothing(checks, "changes, constraint and violation", STATE, Boundaries::busy,
                s -> s.define(1, 1, 3, 0, true));
        changesNothing(checks, "violation alone", STATE, Boundaries::quiet, s -> s.define(0, 1, 0, 0, true));
    }

    @Sentence(FIRST_NAMED)
    static void section6_severalForDropAndSetMode(Checks checks) {
        changesNothing(checks, "drop, table and changes", INDEX, Boundaries::busy, s -> s.drop(4, 0));
        changesNothing(checks, "drop, column and changes", INDEX, Boundaries::busy, s -> s.drop(0, 2));
        changesNothing(checks, "drop, column and no constraint", INDEX, Boundaries::quiet, s -> s.drop(3, 2));
        changesNothing(checks, "setMode, column and no constraint", INDEX, Boundaries::busy,
                s -> s.setMode(3, -1, true));
        changesNothing(checks, "setMode, table and column", INDEX, Boundaries::busy, s -> s.setMode(4, 2, true));
    }

    @Sentence(FIRST_NAMED)
    static void section6_severalForInsert(Checks checks) {
        changesNothing(checks, "table and first", INDEX, Boundaries::busy, s -> s.insert(4, 0, 20, NULL));
        changesNothing(checks, "table and second", INDEX, Boundaries::busy, s -> s.insert(-1, 0, NULL, -2));
        changesNothing(checks, "key and first", INDEX, Boundaries::busy, s -> s.insert(0, -1, -2, NULL));
        changesNothing(checks, "key and second", INDEX, Boundaries::busy, s -> s.insert(0, 20, NULL, 20));
        changesNothing(checks, "first and row", ARGUMENT, Boundaries::busy, s -> s.insert(0, 0, 20, NULL));
        changesNothing(checks, "second and row", ARGUMENT, Boundaries::busy, s -> s.insert(0, 0, NULL, -2));
        changesNothing(checks, "row and refusal", STATE, Boundaries::busy, s -> s.insert(1, 0, 19, 19));
    }

    @Sentence(FIRST_NAMED)
    static void section6_severalForUpdate(Checks checks) {
        changesNothing(checks, "all three", INDEX, Boundaries::busy, s -> s.update(0, 1, 2, 20));
        changesNothing(checks, "table and value", INDEX, Boundaries::busy, s -> s.update(4, 0, 0, 20));
        changesNothing(checks, "key and value", INDEX, Boundaries::busy, s -> s.update(0, 20, 0, -2));
        changesNothing(checks, "column and value", INDEX, Boundaries::busy, s -> s.update(0, 0, -1, 20));
        changesNothing(checks, "column and no row", INDEX, Boundaries::busy, s -> s.update(0, 1, 2, 0));
        changesNothing(checks, "value and no row", ARGUMENT, Boundaries::busy, s -> s.update(0, 1, 0, 20));
        changesNothing(checks, "value and no row, below", ARGUMENT, Boundaries::busy, s -> s.update(0, 1, 0, -2));
    }

    @Sentence(FIRST_NAMED)
    static void section6_severalForTheOthers(Checks checks) {
        changesNothing(checks, "appendText, character and full", ARGUMENT, BoundariesOfSection6::fullOfText,
                s -> s.appendText(31));
        changesNothing(checks, "appendText, character above and full", ARGUMENT, BoundariesOfSection6::fullOfText,
                s -> s.appendText(127));
        changesNothing(checks, "constraint, table and part", INDEX, Boundaries::busy, s -> s.constraint(4, 0, 4));
        changesNothing(checks, "constraint, column and part", INDEX, Boundaries::busy, s -> s.constraint(1, 2, -1));
        changesNothing(checks, "constraint, part without a constraint", ARGUMENT, Boundaries::busy,
                s -> s.constraint(3, 1, 4));
        changesNothing(checks, "delete, table and no row", INDEX, Boundaries::busy, s -> s.delete(4, 19));
    }

    // ---- the constants

    @Sentence("The constants: `NULL = -1`: The value of a column that refers to nothing.")
    static void constants_null(Checks checks) {
        checks.due("NULL", ForeignKeyStore.NULL, -1);
        ForeignKeyStore store = empty();
        store.define(0, 0, 0, RESTRICT, false);
        checks.due("insert", store.insert(0, 0, ForeignKeyStore.NULL, ForeignKeyStore.NULL), 1);
        checks.due("value(0, 0, 0)", store.value(0, 0, 0), -1);
        checks.due("ancestors(0, 0)", store.ancestors(0, 0), 0);
    }

    @Sentence("`NONE = -2`: The result of several methods if there is nothing to return.")
    static void constants_none(Checks checks) {
        checks.due("NONE", ForeignKeyStore.NONE, -2);
        ForeignKeyStore store = withText("c");
        checks.due("value(0, 0, 0)", store.value(0, 0, 0), -2);
        checks.due("ancestors(0, 0)", store.ancestors(0, 0), -2);
        checks.due("constraint(0, 0, 0)", store.constraint(0, 0, 0), -2);
        checks.due("ifDeleted(0, 0)", store.ifDeleted(0, 0), -2);
        checks.due("errorPosition()", store.errorPosition(), -2);
    }

    @Sentence("`RESTRICT = 0, NO_ACTION = 1, CASCADE = 2, SET_NULL = 3`: The actions of constraints.")
    static void constants_actions(Checks checks) {
        int[] actions = {ForeignKeyStore.RESTRICT, ForeignKeyStore.NO_ACTION, ForeignKeyStore.CASCADE,
            ForeignKeyStore.SET_NULL};
        for (int action = 0; action < 4; action++) {
            checks.due("the action", actions[action], action);
            ForeignKeyStore store = empty();
            store.define(0, 0, 0, actions[action], false);
            checks.due("constraint(0, 0, 1)", store.constraint(0, 0, 1), action);
        }
    }

    // ---- the interface

    @Sentence("queries about rows; queries change nothing")
    static void interface_queriesAboutRowsChangeNothing(Checks checks) {
        changesNothing(checks, "exists", true, Boundaries::busy, s -> s.exists(0, 0));
        changesNothing(checks, "value", 0, Boundaries::busy, s -> s.value(1, 0, 0));
        changesNothing(checks, "rows", 2, Boundaries::busy, s -> s.rows(0));
        changesNothing(checks, "references", 1, Boundaries::busy, s -> s.references(0, 0));
        changesNothing(checks, "ancestors", 3, Boundaries::busy, s -> s.ancestors(2, 3));
        changesNothing(checks, "ancestors without a row", NONE, Boundaries::busy, s -> s.ancestors(2, 4));
    }

    @Sentence("queries about constraints")
    static void interface_queriesAboutConstraintsChangeNothing(Checks checks) {
        changesNothing(checks, "constraint", 0, Boundaries::busy, s -> s.constraint(1, 0, 3));
        changesNothing(checks, "constraint, none", NONE, Boundaries::busy, s -> s.constraint(3, 0, 3));
        changesNothing(checks, "constraints", 3, Boundaries::busy, ForeignKeyStore::constraints);
        changesNothing(checks, "firstViolation", 0, Boundaries::busy, ForeignKeyStore::firstViolation);
        changesNothing(checks, "firstViolation, violated", -12, Boundaries::violatedByRollBack,
                ForeignKeyStore::firstViolation);
    }

    @Sentence("queries about what would happen, and about the transaction")
    static void interface_queriesAboutWhatWouldHappenChangeNothing(Checks checks) {
        changesNothing(checks, "ifDeleted, one row", 1, Boundaries::busy, s -> s.ifDeleted(0, 2));
        changesNothing(checks, "ifDeleted, refused", -14, Boundaries::busy, s -> s.ifDeleted(0, 0));
        changesNothing(checks, "ifDeleted, no row", NONE, Boundaries::busy, s -> s.ifDeleted(0, 1));
        changesNothing(checks, "changes", 3, Boundaries::busy, ForeignKeyStore::changes);
        changesNothing(checks, "savePoints", 2, Boundaries::busy, ForeignKeyStore::savePoints);
        changesNothing(checks, "textLength", 4, Boundaries::busy, ForeignKeyStore::textLength);
        changesNothing(checks, "errorPosition", 4, Boundaries::busy, ForeignKeyStore::errorPosition);
    }
}
