/** Of "Terms": 3. STATEMENTS. */
final class BoundariesOfSection3 extends Boundaries {

    @Sentence("A statement inserts a row, updates a column of a row, or deletes a row.")
    static void section3_threeKindsOfStatements(Checks checks) {
        // Each statement is refused while the constraint 2 is violated; the other calls are none.
        changesNothing(checks, "insert", -12, Boundaries::violatedByRollBack, s -> s.insert(2, 0, NULL, NULL));
        changesNothing(checks, "update", -12, Boundaries::violatedByRollBack, s -> s.update(3, 3, 0, 1));
        changesNothing(checks, "delete", -12, Boundaries::violatedByRollBack, s -> s.delete(3, 3));
        ForeignKeyStore store = violatedByRollBack();
        checks.due("savePoint()", store.savePoint(), 1);
        checks.due("rollBackTo(1)", store.rollBackTo(1), 0);
        checks.due("setMode of the violated constraint", store.setMode(1, 0, true), 1);
        checks.due("insert, deferred then", store.insert(2, 0, NULL, NULL), 1);
        checks.due("rollBack()", store.rollBack(), 2);
    }

    private static final String CHECKED =
            "At the end of each statement all immediate constraints are checked in ascending order of their numbers.";

    @Sentence(CHECKED)
    static void section3_noConstraintToCheck(Checks checks) {
        ForeignKeyStore store = empty();
        checks.due("insert", store.insert(0, 0, 19, 19), 1);
        checks.due("update", store.update(0, 0, 0, 18), 1);
        checks.due("delete", store.delete(0, 0), 1);
    }

    @Sentence(CHECKED)
    static void section3_checkedAtTheEndOnly(Checks checks) {
        ForeignKeyStore store = empty();
        store.define(0, 0, 0, NO_ACTION, false);
        checks.due("insert of a row that refers to itself", store.insert(0, 19, 19, NULL), 1);
        store.insert(0, 0, NULL, NULL);
        checks.due("update to a reference to itself", store.update(0, 0, 0, 0), 1);
        checks.due("delete of a row that refers to itself", store.delete(0, 0), 1);
        ForeignKeyStore both = empty();
        both.define(1, 0, 0, NO_ACTION, false);
        both.define(1, 1, 2, CASCADE, false);
        both.define(0, 0, 2, CASCADE, false);
        both.insert(2, 4, NULL, NULL);
        both.insert(0, 5, 4, NULL);
        both.insert(1, 6, 5, 4);
        checks.due("the row 5 alone", both.delete(0, 5), -12);
        checks.due("with all that refers to it", both.delete(2, 4), 3);
    }

    @Sentence(CHECKED)
    static void section3_aDeferredConstraintIsNotChecked(Checks checks) {
        ForeignKeyStore store = empty();
        store.define(0, 0, 1, NO_ACTION, true);
        store.define(0, 1, 1, CASCADE, true);
        checks.due("insert", store.insert(0, 0, 0, 0), 1);
        checks.due("update", store.update(0, 0, 0, 19), 1);
        store.insert(1, 19, NULL, NULL);
        checks.due("delete", store.delete(1, 19), 1);
        checks.due("the value that refers to nothing", store.value(0, 0, 0), 19);
    }

    @Sentence(CHECKED)
    static void section3_everyActionIsCheckedAlike(Checks checks) {
        for (int action = RESTRICT; action <= SET_NULL; action++) {
            ForeignKeyStore store = empty();
            store.define(3, 1, 0, action, false);
            checks.due("insert, action " + action, store.insert(3, 0, NULL, 0), -17);
            store.insert(3, 0, NULL, NULL);
            checks.due("update, action " + action, store.update(3, 0, 1, 0), -17);
        }
    }

    private static final String REFUSED = "If one is violated, the statement is refused because of the first violated one.";

    @Sentence(REFUSED)
    static void section3_theFirstViolatedOfTwo(Checks checks) {
        ForeignKeyStore store = empty();
        store.define(2, 1, 0, NO_ACTION, false);
        store.define(2, 0, 1, NO_ACTION, false);
        checks.due("both violated", store.insert(2, 0, 3, 3), -14);
        checks.due("the second violated", store.insert(2, 0, NULL, 3), -15);
        checks.due("the first violated", store.insert(2, 0, 3, NULL), -14);
        checks.due("none violated", store.insert(2, 0, NULL, NULL), 1);
        checks.due("update, the second violated", store.update(2, 0, 1, 3), -15);
        store.setMode(2, 0, true);
        store.update(2, 0, 0, 3);
        checks.due("the first is violated, but deferred", store.update(2, 0, 1, 3), -15);
    }

    @Sentence(REFUSED)
    static void section3_theFirstViolatedOfAll(Checks checks) {
        ForeignKeyStore store = empty();
        for (int number = 7; number >= 0; number--) {
            store.define(number / 2, number % 2, 0, NO_ACTION, false);
        }
        store.insert(0, 19, NULL, NULL);
        for (int table = 3; table >= 0; table--) {
            store.insert(table, 5, 19, 19);
        }
        for (int number = 0; number < 8; number++) {
            checks.due("delete, first refused by " + number, store.delete(0, 19), -10 - number);
            checks.due("the reference gone", store.update(number / 2, 5, number % 2, NULL), 1);
        }
        checks.due("delete, referred to by none", store.delete(0, 19), 1);
    }

    private static ForeignKeyStore checkedLate() {
        ForeignKeyStore store = busy();
        store.commit();
        store.define(3, 0, 0, SET_NULL, false);
        store.define(3, 1, 1, NO_ACTION, false);
        store.delete(2, 3);
        store.insert(3, 7, 0, 0);
        store.savePoint();
        return store;
    }

    @Sentence("A statement that is refused changes nothing.")
    static void section3_aRefusalChangesNothing(Checks checks) {
        changesNothing(checks, "insert", -12, Boundaries::busy, s -> s.insert(1, 5, 7, NULL));
        changesNothing(checks, "insert, refers to a removed row", -12, Boundaries::busy, s -> s.insert(1, 1, 1, NULL));
        changesNothing(checks, "update", -12, Boundaries::busy, s -> s.update(1, 0, 0, 19));
        changesNothing(checks, "delete, restricted at once", -14, Boundaries::busy, s -> s.delete(1, 0));
        changesNothing(checks, "delete, restricted late", -14, Boundaries::busy, s -> s.delete(0, 0));
        changesNothing(checks, "delete, refused by the check", -17, BoundariesOfSection3::checkedLate,
                s -> s.delete(0, 0));
        changesNothing(checks, "two refusals", -12, Boundaries::busy,
                s -> s.delete(0, 0) == -14 ? s.insert(1, 5, 7, 7) : 0);
    }

    @Sentence("To delete a row there is a queue of rows, which at first holds just this row.")
    static void section3_oneRowInTheQueue(Checks checks) {
        ForeignKeyStore store = empty();
        store.define(0, 0, 0, CASCADE, false);
        for (int key = 0; key < 20; key++) {
            store.insert(0, key, key == 0 ? NULL : 0, NULL);
        }
        checks.due("delete(0, 19)", store.delete(0, 19), 1);
        checks.due("rows(0)", store.rows(0), 19);
        checks.due("delete(0, 1)", store.delete(0, 1), 1);
        checks.due("rows(0) then", store.rows(0), 18);
        checks.due("exists(0, 0)", store.exists(0, 0), true);
    }

    private static final String QUEUE = "As long as the queue is not empty, its first row is taken out of "
            + "the queue and removed from its table.";

    @Sentence(QUEUE)
    static void section3_theFirstOfTheQueueComesFirst(Checks checks) {
        ForeignKeyStore store = empty();
        store.define(0, 0, 0, CASCADE, false);
        store.define(1, 0, 0, RESTRICT, false);
        store.define(1, 1, 0, RESTRICT, false);
        store.insert(0, 0, NULL, NULL);
        store.insert(0, 5, 0, NULL);
        store.insert(0, 9, 0, NULL);
        store.insert(0, 1, 5, NULL);
        // The row 1 comes into the queue when the row 5 is removed: behind the row 9.
        store.insert(1, 0, 1, 9);
        checks.due("the row 9 before the row 1", store.delete(0, 0), -13);
        store.update(1, 0, 1, 5);
        checks.due("the row 5 before the row 1", store.delete(0, 0), -13);
        store.update(1, 0, 0, 5);
        store.update(1, 0, 1, 9);
        checks.due("the row 5 before the row 9", store.delete(0, 0), -12);
        store.update(1, 0, 0, 9);
        store.update(1, 0, 1, 0);
        checks.due("the row 0 before all", store.delete(0, 0), -13);
    }

    @Sentence(QUEUE)
    static void section3_aChainOfAllRows(Checks checks) {
        ForeignKeyStore store = empty();
        for (int table = 0; table < 4; table++) {
            store.define(table, 1, (table + 3) % 4, CASCADE, true);
        }
        for (int key = 0; key < 20; key++) {
            for (int table = 0; table < 4; table++) {
                store.insert(table, key, NULL, table > 0 ? key : key - 1);
            }
        }
        checks.due("commit()", store.commit(), 80);
        checks.due("the last of the chain", store.delete(3, 19), 1);
        store.rollBack();
        checks.due("the second of the chain", store.delete(1, 0), 79);
        checks.due("changes()", store.changes(), 79);
        checks.due("rows that are left", store.rows(0) * 1000 + store.rows(1) + store.rows(2) + store.rows(3), 1000);
        store.rollBack();
        checks.due("the first of the chain", store.delete(0, 0), 80);
        checks.due("rows(0)", store.rows(0), 0);
    }

    @Sentence(QUEUE)
    static void section3_allRowsInTheQueueAtOnce(Checks checks) {
        ForeignKeyStore store = empty();
        for (int table = 0; table < 4; table++) {
            store.define(table, 0, 2, CASCADE, true);
        }
        fill(store, 11, NULL);
        checks.due("delete(2, 11)", store.delete(2, 11), 80);
        checks.due("changes()", store.changes(), 160);
        checks.due("rollBack()", store.rollBack(), 160);
    }

    private static final String IN_ORDER = "Then all constraints whose parent table is the table of y are gone "
            + "through in ascending order of their numbers, and for each of them, in ascending order of their keys, "
            + "the rows of the table of the constraint that refer to y by this constraint:";

    @Sentence(IN_ORDER)
    static void section3_constraintsInTheOrderOfTheirNumbers(Checks checks) {
        ForeignKeyStore store = empty();
        store.define(3, 1, 1, RESTRICT, true);
        store.define(3, 0, 2, RESTRICT, true);
        store.define(2, 0, 0, CASCADE, true);
        store.define(1, 0, 0, CASCADE, true);
        store.insert(0, 0, NULL, NULL);
        store.insert(2, 0, 0, NULL);
        store.insert(1, 19, 0, NULL);
        store.insert(3, 0, 0, 19);
        // The constraint 2 puts its row into the queue before the constraint 4 does.
        checks.due("the row of the table 1 comes first", store.delete(0, 0), -17);
        store.update(3, 0, 1, NULL);
        checks.due("then the row of the table 2", store.delete(0, 0), -16);
        store.update(3, 0, 0, NULL);
        checks.due("then neither", store.delete(0, 0), 3);
    }

    @Sentence(IN_ORDER)
    static void section3_theFirstConstraintAndTheLast(Checks checks) {
        ForeignKeyStore store = empty();
        store.define(3, 1, 2, RESTRICT, true);
        store.define(0, 0, 2, RESTRICT, true);
        store.insert(2, 6, NULL, NULL);
        store.insert(3, 19, NULL, 6);
        checks.due("the constraint 7 alone", store.delete(2, 6), -17);
        store.insert(0, 19, 6, NULL);
        checks.due("the constraint 0 first", store.delete(2, 6), -10);
    }

    @Sentence(IN_ORDER)
    static void section3_rowsInTheOrderOfTheirKeys(Checks checks) {
        ForeignKeyStore store = empty();
        store.define(1, 0, 0, CASCADE, true);
        store.define(2, 0, 1, RESTRICT, true);
        store.define(2, 1, 1, RESTRICT, true);
        store.insert(0, 7, NULL, NULL);
        store.insert(1, 19, 7, NULL);
        store.insert(1, 0, 7, NULL);
        store.insert(2, 0, 19, 0);
        checks.due("the key 0 before the key 19", store.delete(0, 7), -15);
        store.update(2, 0, 0, 0);
        store.update(2, 0, 1, 19);
        checks.due("by the other columns", store.delete(0, 7), -14);
    }

    @Sentence(IN_ORDER)
    static void section3_onlyRowsThatReferToTheRow(Checks checks) {
        ForeignKeyStore store = empty();
        store.define(1, 0, 0, RESTRICT, true);
        store.define(1, 1, 2, RESTRICT, true);
        store.define(3, 0, 0, CASCADE, true);
        store.insert(0, 4, NULL, NULL);
        store.insert(1, 0, NULL, 4);
        store.insert(1, 3, 3, 4);
        store.insert(1, 5, 5, 4);
        store.insert(2, 0, 4, 4);
        store.insert(3, 0, NULL, 4);
        checks.due("no row refers to it", store.delete(0, 4), 1);
        checks.due("rows that stay", store.rows(1) + store.rows(2) + store.rows(3), 5);
    }

    private static final String RESTRICTS =
            "RESTRICT: the statement is refused because of this constraint (also if the row is in the queue).";

    @Sentence(RESTRICTS)
    static void section3_restrictAlsoWhenDeferred(Checks checks) {
        ForeignKeyStore store = empty();
        store.define(0, 0, 1, RESTRICT, true);
        store.insert(1, 0, NULL, NULL);
        store.insert(0, 0, 0, NULL);
        checks.due("deferred", store.delete(1, 0), -10);
        store.setMode(0, 0, false);
        checks.due("immediate", store.delete(1, 0), -10);
        store.update(0, 0, 0, NULL);
        checks.due("without the reference", store.delete(1, 0), 1);
    }

    @Sentence(RESTRICTS)
    static void section3_restrictOfARowInTheQueue(Checks checks) {
        ForeignKeyStore store = empty();
        store.define(1, 0, 0, CASCADE, true);
        store.define(1, 1, 0, RESTRICT, true);
        store.insert(0, 0, NULL, NULL);
        store.insert(1, 8, 0, 0);
        checks.due("the row is in the queue", store.delete(0, 0), -13);
        checks.due("the row is still there", row(store, 1, 8), "0 0");
        store.update(1, 8, 1, NULL);
        checks.due("it does not restrict", store.delete(0, 0), 2);
    }

    @Sentence(RESTRICTS)
    static void section3_restrictOfARemovedRow(Checks checks) {
        ForeignKeyStore itself = empty();
        itself.define(2, 1, 2, RESTRICT, false);
        itself.insert(2, 19, NULL, 19);
        checks.due("a row that refers to itself", itself.delete(2, 19), 1);
        ForeignKeyStore store = empty();
        store.define(0, 0, 0, CASCADE, true);
        store.define(0, 1, 0, RESTRICT, true);
        store.insert(0, 0, NULL, NULL);
        store.insert(0, 1, 0, 2);
        store.insert(0, 2, 0, NULL);
        checks.due("the row 1 is removed before the row 2", store.delete(0, 0), 3);
        store.rollBack();
        store.insert(0, 0, NULL, NULL);
        store.insert(0, 1, 0, NULL);
        store.insert(0, 2, 0, 1);
        checks.due("the row 1 is removed while the row 2 waits", store.delete(0, 0), -11);
    }

    @Sentence("NO_ACTION: nothing happens.")
    static void section3_noAction(Checks checks) {
        ForeignKeyStore store = empty();
        store.define(1, 0, 0, NO_ACTION, true);
        store.define(2, 0, 1, CASCADE, true);
        store.insert(0, 0, NULL, NULL);
        store.insert(1, 0, 0, NULL);
        store.insert(2, 0, 0, NULL);
        store.commit();
        checks.due("deferred", store.delete(0, 0), 1);
        checks.due("changes()", store.changes(), 1);
        checks.due("the row that refers to nothing", row(store, 1, 0), "0 -1");
        checks.due("the row that refers to it", row(store, 2, 0), "0 -1");
        checks.due("commit()", store.commit(), -12);
        store.rollBack();
        store.setMode(1, 0, false);
        checks.due("immediate: refused by the check", store.delete(0, 0), -12);
    }

    private static final String CASCADES = "CASCADE: the row is put at the end of the queue, if it is not in the queue.";

    @Sentence(CASCADES)
    static void section3_aRowComesIntoTheQueueOnce(Checks checks) {
        ForeignKeyStore store = empty();
        store.define(1, 0, 0, CASCADE, false);
        store.define(1, 1, 0, CASCADE, false);
        store.define(0, 0, 0, CASCADE, false);
        store.insert(0, 0, NULL, NULL);
        store.insert(0, 1, 0, NULL);
        store.insert(1, 0, 0, 0);
        store.insert(1, 19, 0, 1);
        store.commit();
        checks.due("delete(0, 0)", store.delete(0, 0), 4);
        checks.due("changes()", store.changes(), 4);
    }

    @Sentence(CASCADES)
    static void section3_aRowKeepsItsPlaceInTheQueue(Checks checks) {
        ForeignKeyStore store = empty();
        store.define(0, 0, 0, CASCADE, true);
        store.define(0, 1, 0, CASCADE, true);
        store.define(1, 0, 0, RESTRICT, true);
        store.define(1, 1, 0, RESTRICT, true);
        store.insert(0, 0, NULL, NULL);
        store.insert(0, 1, 0, NULL);
        store.insert(0, 2, 0, 1);
        store.insert(0, 3, 0, NULL);
        // The row 2 is met again when the row 1 is removed; it stays before the row 3.
        store.insert(1, 0, 3, 2);
        checks.due("the row 2 before the row 3", store.delete(0, 0), -13);
    }

    @Sentence(CASCADES)
    static void section3_cascadesInACircle(Checks checks) {
        ForeignKeyStore store = empty();
        store.define(0, 0, 0, CASCADE, true);
        store.define(0, 1, 0, CASCADE, true);
        store.insert(0, 19, 19, 19);
        checks.due("a row that refers to itself", store.delete(0, 19), 1);
        store.insert(0, 0, 1, NULL);
        store.insert(0, 1, 0, 0);
        checks.due("two rows that refer to each other", store.delete(0, 1), 2);
        for (int key = 0; key < 20; key++) {
            store.insert(0, key, (key + 1) % 20, (key + 19) % 20);
        }
        checks.due("twenty rows in a circle", store.delete(0, 7), 20);
        checks.due("changes()", store.changes(), 2 + 4 + 40);
    }

    @Sentence(CASCADES)
    static void section3_cascadesAlsoWhenDeferred(Checks checks) {
        ForeignKeyStore store = empty();
        store.define(3, 1, 0, CASCADE, true);
        store.insert(0, 0, NULL, NULL);
        store.insert(3, 19, NULL, 0);
        checks.due("delete(0, 0)", store.delete(0, 0), 2);
        checks.due("rows(3)", store.rows(3), 0);
    }

    private static final String SETS_NULL = "SET_NULL: the value of the column of the constraint becomes NULL in this "
            + "row (also if the row is in the queue).";

    @Sentence(SETS_NULL)
    static void section3_setNullInItsColumnOnly(Checks checks) {
        ForeignKeyStore store = empty();
        store.define(3, 0, 0, SET_NULL, false);
        store.define(2, 1, 0, SET_NULL, true);
        store.insert(0, 0, NULL, NULL);
        store.insert(3, 0, 0, 0);
        store.insert(3, 19, 0, 7);
        store.insert(2, 4, 0, 0);
        checks.due("delete(0, 0)", store.delete(0, 0), 1);
        checks.due("the key 0 of the table 3", row(store, 3, 0), "-1 0");
        checks.due("the key 19 of the table 3", row(store, 3, 19), "-1 7");
        checks.due("the row of the table 2", row(store, 2, 4), "0 -1");
    }

    @Sentence(SETS_NULL)
    static void section3_setNullInARowOfTheQueue(Checks checks) {
        ForeignKeyStore store = empty();
        store.define(1, 0, 0, CASCADE, false);
        store.define(1, 1, 0, SET_NULL, false);
        store.insert(0, 0, NULL, NULL);
        store.insert(1, 5, 0, 0);
        store.commit();
        checks.due("delete(0, 0)", store.delete(0, 0), 2);
        checks.due("a column set and two rows removed", store.changes(), 3);
        checks.due("rollBack()", store.rollBack(), 3);
        checks.due("the row of the queue", row(store, 1, 5), "0 0");
    }

    @Sentence(SETS_NULL)
    static void section3_setNullEndsAReferenceFromTheQueue(Checks checks) {
        ForeignKeyStore store = empty();
        store.define(0, 0, 0, CASCADE, true);
        store.define(1, 0, 0, SET_NULL, true);
        store.define(1, 1, 0, CASCADE, true);
        store.define(2, 0, 1, RESTRICT, true);
        store.insert(0, 0, NULL, NULL);
        store.insert(0, 1, 0, NULL);
        store.insert(1, 0, 1, NULL);
        store.insert(2, 0, 0, NULL);
        checks.due("the row of the table 1 stays, so nothing restricts", store.delete(0, 0), 2);
        checks.due("its value", store.value(1, 0, 0), NULL);
    }

    @Sentence(SETS_NULL)
    static void section3_setNullOfARowThatRefersToItself(Checks checks) {
        ForeignKeyStore store = empty();
        store.define(2, 0, 2, SET_NULL, false);
        store.insert(2, 0, 0, NULL);
        store.commit();
        checks.due("delete(2, 0)", store.delete(2, 0), 1);
        checks.due("a removed row is not set", store.changes(), 1);
    }

    @Sentence(SETS_NULL)
    static void section3_setNullInAllRows(Checks checks) {
        ForeignKeyStore store = empty();
        for (int number = 0; number < 8; number++) {
            store.define(number / 2, number % 2, 3, SET_NULL, true);
        }
        fill(store, 19, 19);
        store.commit();
        checks.due("delete(3, 19)", store.delete(3, 19), 1);
        checks.due("two columns in 79 rows, and one row", store.changes(), 2 * 79 + 1);
        checks.due("violations", store.firstViolation(), 0);
        checks.due("rollBack()", store.rollBack(), 159);
        checks.due("the last row", row(store, 3, 19), "19 19");
    }

    @Sentence("The code of a refusal because of the constraint with the number n is -10 - n.")
    static void section3_codesFrom10To17(Checks checks) {
        for (int number = 0; number < 8; number++) {
            int table = number / 2;
            int column = number % 2;
            int parent = (table + 2) % 4;
            ForeignKeyStore store = empty();
            store.define(table, column, parent, RESTRICT, false);
            store.insert(parent, 0, NULL, NULL);
            store.insert(table, 0, column == 0 ? 0 : NULL, column == 1 ? 0 : NULL);
            checks.due("update, constraint " + number, store.update(table, 0, column, 19), -10 - number);
            checks.due("delete, constraint " + number, store.delete(parent, 0), -10 - number);
            checks.due("ifDeleted, constraint " + number, store.ifDeleted(parent, 0), -10 - number);
            store.setMode(table, column, true);
            store.update(table, 0, column, 19);
            checks.due("commit, constraint " + number, store.commit(), -10 - number);
            checks.due("firstViolation, constraint " + number, store.firstViolation(), -10 - number);
            checks.due("setMode, constraint " + number, store.setMode(table, column, false), -10 - number);
        }
    }
}
