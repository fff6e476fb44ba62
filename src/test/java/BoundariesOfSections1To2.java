/** "What it is", and of "Terms": 1. ROWS, 2. CONSTRAINTS. */
final class BoundariesOfSections1To2 extends Boundaries {

    // ---- What it is

    @Sentence("An object is used for at most 512 calls after it has been made")
    static void whatItIs_theLastOf512Calls(Checks checks) {
        ForeignKeyStore store = empty();
        for (int call = 1; call < CALLS; call++) {
            checks.due("update or insert " + call, call == 1 ? store.insert(0, 0, 0, NULL)
                    : store.update(0, 0, 0, call % 20), 1);
        }
        checks.due("the 512th call", store.rollBack(), 511);
    }

    @Sentence("An object is used for at most 512 calls after it has been made")
    static void whatItIs_theMostChangesIn512Calls(Checks checks) {
        ForeignKeyStore store = empty();
        store.define(0, 0, 0, SET_NULL, false);
        store.define(0, 1, 0, SET_NULL, false);
        // Nine insertions, each of which refers twice to itself or to another row.
        String inserts = "i0,0,0,0;i0,1,0,0;i0,2,0,0;i0,3,0,0;i0,4,0,0;i0,5,0,0;i0,6,0,0;i0,7,0,0;i0,8,0,0";
        Checks.write(store, inserts);
        int used = 2 + inserts.length();
        int due = 0;
        for (; used + 10 < CALLS; used += 10) {
            checks.due("runText()", store.runText(), 9);
            due += 9;
            for (int key = 0; key < 9; key++) {
                checks.due("delete(0, " + key + ")", store.delete(0, key), 1);
            }
            // The columns of the eight rows that refer to the row 0, and nine rows.
            due += 16 + 9;
        }
        checks.due("changes()", store.changes(), due);
        checks.due("rollBack()", store.rollBack(), due);
    }

    /** Free is what such calls answer, but LANGUAGE.md lets none throw by itself or not end. */
    @Sentence("what later calls answer is free")
    static void whatItIs_laterCallsThrowNothingByThemselves(Checks checks) {
        ForeignKeyStore store = empty();
        store.define(0, 0, 0, CASCADE, true);
        store.define(0, 1, 0, SET_NULL, true);
        Checks.write(store, "i0,1,2,2;i0,2,1,1;i0,3,2,2;i0,4,3,1;d0,1");
        for (int call = 0; call < 20000; call++) {
            Object answer = Checks.answerOf(store::runText);
            if (!(answer instanceof Integer)) {
                checks.due("runText() long after the 512th call", answer, "a number");
            }
        }
        checks.due("a rollBack() that undoes much", store.rollBack() >= 0, true);
        checks.due("insert behind it", Checks.answerOf(() -> store.insert(0, 0, 20, 0)), ARGUMENT);
    }

    // ---- 1. ROWS

    @Sentence("There are four tables, numbered 0 to 3.")
    static void section1_fourTables(Checks checks) {
        ForeignKeyStore store = empty();
        for (int table = 0; table < 4; table++) {
            checks.due("insert into " + table, store.insert(table, 0, 10 + table, NULL), 1);
        }
        for (int table = 0; table < 4; table++) {
            checks.due("rows(" + table + ")", store.rows(table), 1);
            checks.due("the row of " + table, row(store, table, 0), (10 + table) + " -1");
        }
        throwsBeyond(checks, INDEX, 0, 3, "insert into table", (s, t) -> s.insert(t, 5, NULL, NULL));
    }

    @Sentence("A table has rows")
    static void section1_aTableWithAllItsRows(Checks checks) {
        ForeignKeyStore store = empty();
        fill(store, NULL, 4);
        for (int table = 0; table < 4; table++) {
            int full = table;
            checks.due("rows(" + table + ")", store.rows(table), 20);
            for (int key = 0; key < 20; key++) {
                int used = key;
                checks.due("insert(" + full + ", " + used + ", ..)",
                        Checks.answerOf(() -> store.insert(full, used, NULL, NULL)), STATE);
            }
        }
        checks.due("changes()", store.changes(), 80);
    }

    @Sentence("a row is identified in its table by its key, from 0 to 19")
    static void section1_keysFrom0To19(Checks checks) {
        ForeignKeyStore store = empty();
        for (int table = 0; table < 4; table++) {
            store.insert(table, 0, table, NULL);
            store.insert(table, 19, NULL, table);
        }
        store.delete(1, 19);
        store.update(2, 0, 1, 8);
        checks.due("the key 0 of the table 1", row(store, 1, 0), "1 -1");
        checks.due("the key 19 of the table 1", row(store, 1, 19), "-2 -2");
        checks.due("the key 0 of the table 2", row(store, 2, 0), "2 8");
        checks.due("the key 19 of the table 2", row(store, 2, 19), "-1 2");
        checks.due("the key 0 of the table 3", row(store, 3, 0), "3 -1");
        checks.due("the key 19 of the table 0", row(store, 0, 19), "-1 0");
        throwsBeyond(checks, INDEX, 0, 19, "insert of a key", (s, k) -> s.insert(3, k, NULL, NULL));
        throwsBeyond(checks, INDEX, 0, 19, "exists of a key", (s, k) -> s.exists(1, k));
    }

    @Sentence("A row has two columns, numbered 0 and 1")
    static void section1_columns0And1(Checks checks) {
        ForeignKeyStore store = empty();
        store.insert(3, 19, 6, 7);
        checks.due("both columns", row(store, 3, 19), "6 7");
        store.update(3, 19, 0, 8);
        checks.due("the column 0 set", row(store, 3, 19), "8 7");
        store.update(3, 19, 1, 9);
        checks.due("the column 1 set", row(store, 3, 19), "8 9");
        throwsBeyond(checks, INDEX, 0, 1, "update of a column", (s, c) -> s.update(1, 0, c, NULL));
        throwsBeyond(checks, INDEX, 0, 1, "value of a column", (s, c) -> s.value(1, 0, c));
    }

    @Sentence("the value of a column is NULL (-1) or a key from 0 to 19")
    static void section1_valuesFromNullTo19(Checks checks) {
        ForeignKeyStore store = empty();
        store.insert(0, 0, -1, 19);
        store.insert(0, 1, 19, 0);
        store.insert(0, 2, 0, -1);
        checks.due("-1 and 19", row(store, 0, 0), "-1 19");
        checks.due("19 and 0", row(store, 0, 1), "19 0");
        checks.due("0 and -1", row(store, 0, 2), "0 -1");
        throwsBeyond(checks, ARGUMENT, -1, 19, "insert, column 0", (s, v) -> s.insert(3, 0, v, NULL));
        throwsBeyond(checks, ARGUMENT, -1, 19, "insert, column 1", (s, v) -> s.insert(3, 0, NULL, v));
        throwsBeyond(checks, ARGUMENT, -1, 19, "update, column 0", (s, v) -> s.update(0, 0, 0, v));
        throwsBeyond(checks, ARGUMENT, -1, 19, "update, column 1", (s, v) -> s.update(0, 0, 1, v));
    }

    @Sentence("At first there are no rows.")
    static void section1_atFirstNoRows(Checks checks) {
        ForeignKeyStore store = empty();
        for (int table = 0; table < 4; table++) {
            int emptyTable = table;
            checks.due("rows(" + table + ")", store.rows(table), 0);
            for (int key = 0; key < 20; key++) {
                int noKey = key;
                checks.due("delete(" + table + ", " + key + ")",
                        Checks.answerOf(() -> store.delete(emptyTable, noKey)), STATE);
            }
        }
    }

    // ---- 2. CONSTRAINTS

    @Sentence("For each table and column there is at most one constraint.")
    static void section2_atMostOneConstraint(Checks checks) {
        ForeignKeyStore store = empty();
        for (int number = 0; number < 8; number++) {
            checks.due("define " + number, store.define(number / 2, number % 2, 1, CASCADE, true), number + 1);
        }
        for (int number = 0; number < 8; number++) {
            int table = number / 2;
            int column = number % 2;
            checks.due("define " + number + " again",
                    Checks.answerOf(() -> store.define(table, column, 2, SET_NULL, false)), STATE);
            checks.due("the parent of " + number, store.constraint(table, column, 0), 1);
            checks.due("the action of " + number, store.constraint(table, column, 1), CASCADE);
            checks.due("the mode of " + number, store.constraint(table, column, 2), 1);
        }
    }

    @Sentence("The number of the constraint of the table t and the column c is 2 * t + c.")
    static void section2_numbersFrom0To7(Checks checks) {
        for (int table = 0; table < 4; table++) {
            for (int column = 0; column < 2; column++) {
                ForeignKeyStore store = empty();
                store.define(table, column, (table + 1) % 4, NO_ACTION, false);
                int refusal = store.insert(table, 0, column == 0 ? 5 : NULL, column == 1 ? 5 : NULL);
                checks.due("the refusal by " + table + " and " + column, refusal, -10 - (2 * table + column));
            }
        }
    }

    @Sentence("A constraint has a parent table (which can be the table itself), an action and a mode.")
    static void section2_theTableItselfAsParent(Checks checks) {
        for (int table = 0; table < 4; table++) {
            ForeignKeyStore store = empty();
            checks.due("define", store.define(table, 1, table, SET_NULL, true), 1);
            checks.due("the parent", store.constraint(table, 1, 0), table);
            checks.due("the action", store.constraint(table, 1, 1), SET_NULL);
            checks.due("the mode", store.constraint(table, 1, 2), 1);
            store.insert(table, 19, NULL, 0);
            store.insert(table, 0, NULL, 19);
            checks.due("delete", store.delete(table, 0), 1);
            checks.due("the row that referred", row(store, table, 19), "-1 -1");
        }
    }

    private static int deletionWith(int action) {
        ForeignKeyStore store = empty();
        store.define(1, 0, 0, action, true);
        store.insert(0, 0, NULL, NULL);
        store.insert(1, 0, 0, NULL);
        return store.delete(0, 0) * 100 + store.value(1, 0, 0);
    }

    @Sentence("The actions are RESTRICT (0), NO_ACTION (1), CASCADE (2) and SET_NULL (3).")
    static void section2_actions0To3(Checks checks) {
        checks.due("refused, the value 0 stays", deletionWith(0), -1200);
        checks.due("one row removed, the value 0 stays", deletionWith(1), 100);
        checks.due("two rows removed", deletionWith(2), 200 + NONE);
        checks.due("one row removed, the value becomes NULL", deletionWith(3), 100 + NULL);
        throwsBeyond(checks, ARGUMENT, 0, 3, "define with action",
                (s, a) -> s.define(3, 0, 0, a, true));
    }

    @Sentence("The mode is immediate or deferred.")
    static void section2_twoModes(Checks checks) {
        ForeignKeyStore immediate = empty();
        immediate.define(0, 0, 1, NO_ACTION, false);
        checks.due("immediate", immediate.constraint(0, 0, 2), 0);
        checks.due("insert, immediate", immediate.insert(0, 0, 0, NULL), -10);
        ForeignKeyStore deferred = empty();
        deferred.define(0, 0, 1, NO_ACTION, true);
        checks.due("deferred", deferred.constraint(0, 0, 2), 1);
        checks.due("insert, deferred", deferred.insert(0, 0, 0, NULL), 1);
        checks.due("commit, deferred", deferred.commit(), -10);
    }

    @Sentence("At first there are no constraints.")
    static void section2_atFirstNoConstraints(Checks checks) {
        ForeignKeyStore store = empty();
        for (int number = 0; number < 8; number++) {
            int table = number / 2;
            int column = number % 2;
            checks.due("drop " + number, Checks.answerOf(() -> store.drop(table, column)), STATE);
        }
        checks.due("a value without a constraint", store.insert(0, 0, 19, 0), 1);
        checks.due("commit()", store.commit(), 1);
    }

    private static final String VIOLATES = "A row of the table t violates the constraint of t and c if "
            + "the value of its column c is not NULL and the parent table has no row with this value as its key.";

    private static ForeignKeyStore watched() {
        ForeignKeyStore store = empty();
        store.define(1, 1, 2, NO_ACTION, true);
        return store;
    }

    @Sentence(VIOLATES)
    static void section2_nullNeverViolates(Checks checks) {
        ForeignKeyStore store = watched();
        store.insert(1, 0, NULL, NULL);
        checks.due("NULL", store.constraint(1, 1, 3), 0);
        store.update(1, 0, 1, 0);
        checks.due("the key 0", store.constraint(1, 1, 3), 1);
        store.update(1, 0, 1, 19);
        checks.due("the key 19", store.constraint(1, 1, 3), 1);
        store.update(1, 0, 1, NULL);
        checks.due("NULL again", store.constraint(1, 1, 3), 0);
    }

    @Sentence(VIOLATES)
    static void section2_onlyARowOfTheParentTableCounts(Checks checks) {
        ForeignKeyStore store = watched();
        store.insert(1, 0, NULL, 0);
        store.insert(1, 19, NULL, 19);
        store.insert(3, 0, NULL, NULL);
        store.insert(3, 19, NULL, NULL);
        store.insert(0, 0, NULL, NULL);
        checks.due("rows of other tables", store.constraint(1, 1, 3), 2);
        store.insert(2, 0, NULL, NULL);
        checks.due("the row 0 of the parent table", store.constraint(1, 1, 3), 1);
        store.insert(2, 19, NULL, NULL);
        checks.due("the row 19 of the parent table", store.constraint(1, 1, 3), 0);
    }

    @Sentence(VIOLATES)
    static void section2_onlyItsColumnAndTableCount(Checks checks) {
        ForeignKeyStore store = watched();
        store.insert(1, 0, 4, NULL);
        store.insert(0, 0, 4, 4);
        store.insert(2, 0, 4, 4);
        store.insert(3, 0, 4, 4);
        checks.due("the other column and other tables", store.constraint(1, 1, 3), 0);
        checks.due("firstViolation()", store.firstViolation(), 0);
    }

    @Sentence(VIOLATES)
    static void section2_aRowThatRefersToItself(Checks checks) {
        ForeignKeyStore store = empty();
        store.define(2, 0, 2, NO_ACTION, true);
        store.insert(2, 0, 0, NULL);
        store.insert(2, 19, 19, NULL);
        checks.due("rows that refer to themselves", store.constraint(2, 0, 3), 0);
        store.insert(2, 18, 17, NULL);
        checks.due("a row that refers to none", store.constraint(2, 0, 3), 1);
    }

    @Sentence("A constraint is violated if at least one row violates it.")
    static void section2_violatedByOneRow(Checks checks) {
        ForeignKeyStore store = watched();
        checks.due("no row", store.firstViolation(), 0);
        store.insert(2, 5, NULL, NULL);
        for (int key = 0; key < 19; key++) {
            store.insert(1, key, NULL, 5);
        }
        checks.due("nineteen rows that do not violate it", store.firstViolation(), 0);
        store.insert(1, 19, NULL, 6);
        checks.due("one of twenty rows", store.firstViolation(), -13);
        store.delete(2, 5);
        checks.due("all rows", store.firstViolation(), -13);
        checks.due("all rows counted", store.constraint(1, 1, 3), 20);
    }

    private static final String REFERS = "A row x refers to a row y if a table and a column of x have "
            + "a constraint whose parent table is the table of y, and the value of this column of x is the key of y.";

    @Sentence(REFERS)
    static void section2_noReferenceWithoutAConstraint(Checks checks) {
        ForeignKeyStore store = empty();
        store.insert(0, 3, 3, 3);
        store.insert(1, 3, 3, 3);
        checks.due("references(0, 3)", store.references(0, 3), 0);
        checks.due("ancestors(1, 3)", store.ancestors(1, 3), 0);
        checks.due("delete(0, 3)", store.delete(0, 3), 1);
    }

    @Sentence(REFERS)
    static void section2_aReferenceIsToTheParentTable(Checks checks) {
        ForeignKeyStore store = empty();
        store.define(1, 0, 2, RESTRICT, true);
        store.insert(1, 0, 3, 3);
        for (int table = 0; table < 4; table++) {
            checks.due("references(" + table + ", 3)", store.references(table, 3), table == 2 ? 1 : 0);
            checks.due("references(" + table + ", 2)", store.references(table, 2), 0);
            checks.due("references(" + table + ", 4)", store.references(table, 4), 0);
        }
    }

    @Sentence(REFERS)
    static void section2_aRowCanReferToItself(Checks checks) {
        ForeignKeyStore store = empty();
        store.define(3, 1, 3, RESTRICT, true);
        store.insert(3, 19, NULL, 19);
        checks.due("references(3, 19)", store.references(3, 19), 1);
        checks.due("ancestors(3, 19)", store.ancestors(3, 19), 1);
    }
}
