/** Promise 5: insert, 6: update, 7: delete. */
final class BoundariesOfPromises5To7 extends Boundaries {

    // ---- Promise 5: insert

    @Sentence("Inserts a row.")
    static void promise5_oneRow(Checks checks) {
        ForeignKeyStore store = empty();
        checks.due("insert", store.insert(2, 7, 8, 9), 1);
        checks.due("the row", row(store, 2, 7), "8 9");
        checks.due("rows", store.rows(0) + store.rows(1) + store.rows(2) + store.rows(3), 1);
        checks.due("changes()", store.changes(), 1);
    }

    @Sentence("`table`: 0 to 3")
    static void promise5_table0To3(Checks checks) {
        ForeignKeyStore store = empty();
        checks.due("table 0", store.insert(0, 5, NULL, NULL), 1);
        checks.due("table 3", store.insert(3, 5, NULL, NULL), 1);
        throwsBeyond(checks, INDEX, 0, 3, "insert, table", (s, t) -> s.insert(t, 5, NULL, NULL));
    }

    @Sentence("`key`: 0 to 19")
    static void promise5_key0To19(Checks checks) {
        ForeignKeyStore store = empty();
        checks.due("key 0", store.insert(1, 0, NULL, NULL), 1);
        checks.due("key 19", store.insert(1, 19, NULL, NULL), 1);
        checks.due("the keys beside them", store.rows(0) + store.rows(2), 0);
        throwsBeyond(checks, INDEX, 0, 19, "insert, key", (s, k) -> s.insert(3, k, NULL, NULL));
    }

    @Sentence("`first`: the value of the column 0, -1 to 19")
    static void promise5_firstFromNullTo19(Checks checks) {
        ForeignKeyStore store = empty();
        for (int first = -1; first < 19; first++) {
            checks.due("first " + first, store.insert(0, first + 1, first, 5), 1);
            checks.due("the row", row(store, 0, first + 1), first + " 5");
        }
        checks.due("first 19", store.insert(1, 0, 19, 5), 1);
        checks.due("the row of 19", row(store, 1, 0), "19 5");
        throwsBeyond(checks, ARGUMENT, -1, 19, "insert, first", (s, v) -> s.insert(3, 0, v, NULL));
    }

    @Sentence("`second`: the value of the column 1, -1 to 19")
    static void promise5_secondFromNullTo19(Checks checks) {
        ForeignKeyStore store = empty();
        for (int second = -1; second < 19; second++) {
            checks.due("second " + second, store.insert(0, second + 1, 5, second), 1);
            checks.due("the row", row(store, 0, second + 1), "5 " + second);
        }
        checks.due("second 19", store.insert(1, 0, 5, 19), 1);
        checks.due("the row of 19", row(store, 1, 0), "5 19");
        throwsBeyond(checks, ARGUMENT, -1, 19, "insert, second", (s, v) -> s.insert(3, 0, NULL, v));
    }

    @Sentence("Returns 1 if the row is inserted, otherwise the code of the refusal.")
    static void promise5_insertedOrRefused(Checks checks) {
        changesNothing(checks, "no row of the parent table", -12, Boundaries::busy, s -> s.insert(1, 5, 19, NULL));
        checks.due("a row of the parent table", busy().insert(1, 5, 2, NULL), 1);
        checks.due("NULL", busy().insert(1, 5, NULL, NULL), 1);
        checks.due("a deferred constraint", busy().insert(1, 5, NULL, 19), 1);
        checks.due("a column without a constraint", busy().insert(2, 5, NULL, 19), 1);
        changesNothing(checks, "no row of the table 1", -14, Boundaries::busy, s -> s.insert(2, 5, 1, 0));
        ForeignKeyStore store = empty();
        store.define(0, 0, 0, RESTRICT, false);
        checks.due("the row itself", store.insert(0, 0, 0, NULL), 1);
        checks.due("another row than itself", store.insert(0, 1, 2, NULL), -10);
    }

    @Sentence("Throws `IndexOutOfBoundsException` if there is no such table or key")
    static void promise5_noSuchTableOrKey(Checks checks) {
        changesNothing(checks, "table -1", INDEX, Boundaries::busy, s -> s.insert(-1, 19, NULL, NULL));
        changesNothing(checks, "table 4", INDEX, Boundaries::busy, s -> s.insert(4, 0, NULL, NULL));
        changesNothing(checks, "key -1", INDEX, Boundaries::busy, s -> s.insert(1, -1, NULL, NULL));
        changesNothing(checks, "key 20", INDEX, Boundaries::busy, s -> s.insert(1, 20, NULL, NULL));
    }

    @Sentence("Throws `IllegalArgumentException` if a value is out of range")
    static void promise5_aValueOutOfRange(Checks checks) {
        changesNothing(checks, "first -2", ARGUMENT, Boundaries::busy, s -> s.insert(3, 0, -2, NULL));
        changesNothing(checks, "first 20", ARGUMENT, Boundaries::busy, s -> s.insert(3, 0, 20, NULL));
        changesNothing(checks, "second -2", ARGUMENT, Boundaries::busy, s -> s.insert(3, 0, NULL, -2));
        changesNothing(checks, "second 20", ARGUMENT, Boundaries::busy, s -> s.insert(3, 0, NULL, 20));
        changesNothing(checks, "both", ARGUMENT, Boundaries::busy, s -> s.insert(3, 0, 20, -2));
    }

    @Sentence("Throws `IllegalStateException` if the table has a row with this key")
    static void promise5_aRowWithThisKey(Checks checks) {
        changesNothing(checks, "a committed row", STATE, Boundaries::busy, s -> s.insert(0, 0, NULL, NULL));
        changesNothing(checks, "a row with changes", STATE, Boundaries::busy, s -> s.insert(0, 2, 3, NULL));
        changesNothing(checks, "a row with other values", STATE, Boundaries::busy, s -> s.insert(0, 2, 4, 4));
        checks.due("a removed row", busy().insert(0, 1, NULL, NULL), 1);
        checks.due("a key of other tables", busy().insert(3, 0, NULL, NULL), 1);
        ForeignKeyStore store = busy();
        store.rollBack();
        checks.due("a row that was rolled back", store.insert(0, 2, NULL, NULL), 1);
        checks.due("a row that is back", Checks.answerOf(() -> store.insert(0, 1, NULL, NULL)), STATE);
    }

    // ---- Promise 6: update

    @Sentence("Updates a column of a row.")
    static void promise6_oneColumn(Checks checks) {
        ForeignKeyStore store = empty();
        store.insert(1, 5, 6, 7);
        store.insert(1, 6, 6, 7);
        store.insert(2, 5, 6, 7);
        checks.due("update", store.update(1, 5, 0, 8), 1);
        checks.due("the row", row(store, 1, 5), "8 7");
        checks.due("the next row", row(store, 1, 6), "6 7");
        checks.due("the row of the next table", row(store, 2, 5), "6 7");
    }

    @Sentence("`table`: 0 to 3")
    static void promise6_table0To3(Checks checks) {
        ForeignKeyStore store = empty();
        fill(store, 5, 5);
        checks.due("table 0", store.update(0, 0, 0, 6), 1);
        checks.due("table 3", store.update(3, 0, 0, 7), 1);
        checks.due("the row of the table 0", row(store, 0, 0), "6 5");
        checks.due("the row of the table 3", row(store, 3, 0), "7 5");
        throwsBeyond(checks, INDEX, 0, 3, "update, table", (s, t) -> s.update(t, 0, 0, NULL));
    }

    @Sentence("`key`: 0 to 19")
    static void promise6_key0To19(Checks checks) {
        ForeignKeyStore store = empty();
        fill(store, 5, 5);
        checks.due("key 0", store.update(1, 0, 0, 6), 1);
        checks.due("key 19", store.update(1, 19, 1, 7), 1);
        checks.due("the row 0", row(store, 1, 0), "6 5");
        checks.due("the row 19", row(store, 1, 19), "5 7");
        checks.due("the last row of the table before", row(store, 0, 19), "5 5");
        checks.due("the first row of the table behind", row(store, 2, 0), "5 5");
        throwsBeyond(checks, INDEX, 0, 19, "update, key", (s, k) -> s.update(1, k, 0, NULL));
    }

    @Sentence("`column`: 0 or 1")
    static void promise6_column0Or1(Checks checks) {
        ForeignKeyStore store = empty();
        store.insert(3, 19, NULL, NULL);
        checks.due("column 0", store.update(3, 19, 0, 0), 1);
        checks.due("the row", row(store, 3, 19), "0 -1");
        checks.due("column 1", store.update(3, 19, 1, 19), 1);
        checks.due("the row then", row(store, 3, 19), "0 19");
        throwsBeyond(checks, INDEX, 0, 1, "update, column", (s, c) -> s.update(0, 0, c, NULL));
    }

    @Sentence("`value`: the new value, -1 to 19")
    static void promise6_valueFromNullTo19(Checks checks) {
        ForeignKeyStore store = empty();
        store.insert(0, 0, 7, 7);
        for (int value = -1; value < 20; value++) {
            checks.due("column 0 to " + value, store.update(0, 0, 0, value), 1);
            checks.due("column 1 to " + value, store.update(0, 0, 1, value), 1);
            checks.due("the row", row(store, 0, 0), value + " " + value);
        }
        throwsBeyond(checks, ARGUMENT, -1, 19, "update, value", (s, v) -> s.update(0, 0, 0, v));
    }

    @Sentence("Returns 1 if the column is set, otherwise the code of the refusal.")
    static void promise6_setOrRefused(Checks checks) {
        changesNothing(checks, "no row of the parent table", -12, Boundaries::busy, s -> s.update(1, 0, 0, 1));
        checks.due("a row of the parent table", busy().update(1, 0, 0, 2), 1);
        checks.due("the value that it has", busy().update(1, 0, 0, 0), 1);
        checks.due("NULL", busy().update(1, 0, 0, NULL), 1);
        checks.due("a deferred constraint", busy().update(1, 0, 1, 19), 1);
        checks.due("a column without a constraint", busy().update(2, 3, 1, 19), 1);
        changesNothing(checks, "no row of the table 1", -14, Boundaries::busy, s -> s.update(2, 3, 0, 2));
        ForeignKeyStore store = empty();
        store.define(3, 1, 3, RESTRICT, false);
        store.insert(3, 19, NULL, NULL);
        checks.due("the row itself", store.update(3, 19, 1, 19), 1);
        checks.due("another row than itself", store.update(3, 19, 1, 18), -17);
        checks.due("the value after the refusal", store.value(3, 19, 1), 19);
    }

    @Sentence("Throws `IndexOutOfBoundsException` if there is no such table, key or column")
    static void promise6_noSuchTableKeyOrColumn(Checks checks) {
        changesNothing(checks, "table -1", INDEX, Boundaries::busy, s -> s.update(-1, 0, 0, NULL));
        changesNothing(checks, "table 4", INDEX, Boundaries::busy, s -> s.update(4, 0, 0, NULL));
        changesNothing(checks, "key -1", INDEX, Boundaries::busy, s -> s.update(0, -1, 0, NULL));
        changesNothing(checks, "key 20", INDEX, Boundaries::busy, s -> s.update(0, 20, 0, NULL));
        changesNothing(checks, "column -1", INDEX, Boundaries::busy, s -> s.update(0, 0, -1, NULL));
        changesNothing(checks, "column 2", INDEX, Boundaries::busy, s -> s.update(0, 0, 2, NULL));
    }

    @Sentence("Throws `IllegalArgumentException` if the value is out of range")
    static void promise6_theValueOutOfRange(Checks checks) {
        changesNothing(checks, "-2", ARGUMENT, Boundaries::busy, s -> s.update(0, 0, 0, -2));
        changesNothing(checks, "20", ARGUMENT, Boundaries::busy, s -> s.update(0, 0, 1, 20));
    }

    @Sentence("Throws `IllegalStateException` if the table has no row with this key")
    static void promise6_noRowWithThisKey(Checks checks) {
        changesNothing(checks, "no row at all", STATE, Boundaries::empty, s -> s.update(0, 0, 0, NULL));
        changesNothing(checks, "never inserted", STATE, Boundaries::busy, s -> s.update(0, 3, 0, NULL));
        changesNothing(checks, "removed", STATE, Boundaries::busy, s -> s.update(0, 1, 0, NULL));
        changesNothing(checks, "a key of other tables", STATE, Boundaries::busy, s -> s.update(3, 0, 1, NULL));
        ForeignKeyStore store = busy();
        store.rollBack();
        checks.due("rolled back", Checks.answerOf(() -> store.update(0, 2, 0, NULL)), STATE);
        checks.due("back again", store.update(0, 1, 0, NULL), 1);
    }

    // ---- Promise 7: delete

    @Sentence("Deletes a row (section 3).")
    static void promise7_oneRow(Checks checks) {
        ForeignKeyStore store = empty();
        fill(store, NULL, NULL);
        checks.due("delete", store.delete(1, 5), 1);
        checks.due("exists(1, 5)", store.exists(1, 5), false);
        checks.due("rows(1)", store.rows(1), 19);
        checks.due("rows of the other tables", store.rows(0) + store.rows(2) + store.rows(3), 60);
    }

    @Sentence("`table`: 0 to 3")
    static void promise7_table0To3(Checks checks) {
        ForeignKeyStore store = empty();
        fill(store, NULL, NULL);
        checks.due("table 0", store.delete(0, 4), 1);
        checks.due("table 3", store.delete(3, 4), 1);
        checks.due("rows", store.rows(0) + store.rows(1) * 100 + store.rows(2) * 10000 + store.rows(3) * 1000000,
                19202019);
        throwsBeyond(checks, INDEX, 0, 3, "delete, table", (s, t) -> s.delete(t, 0));
    }

    @Sentence("`key`: 0 to 19")
    static void promise7_key0To19(Checks checks) {
        ForeignKeyStore store = empty();
        fill(store, NULL, NULL);
        checks.due("key 0", store.delete(1, 0), 1);
        checks.due("key 19", store.delete(1, 19), 1);
        checks.due("rows(1)", store.rows(1), 18);
        checks.due("rows beside them", store.rows(0) + store.rows(2), 40);
        throwsBeyond(checks, INDEX, 0, 19, "delete, key", (s, k) -> s.delete(1, k));
    }

    @Sentence("Returns the number of rows that are removed, or the code of the refusal.")
    static void promise7_from1To80RowsRemoved(Checks checks) {
        ForeignKeyStore store = empty();
        for (int table = 0; table < 4; table++) {
            store.define(table, 0, 0, CASCADE, true);
        }
        fill(store, 19, NULL);
        store.commit();
        checks.due("one row", store.delete(3, 19), 1);
        checks.due("all rows that are left", store.delete(0, 19), 79);
        store.rollBack();
        checks.due("all rows", store.delete(0, 19), 80);
        checks.due("changes()", store.changes(), 80);
    }

    @Sentence("Returns the number of rows that are removed, or the code of the refusal.")
    static void promise7_refused(Checks checks) {
        changesNothing(checks, "restricted", -14, Boundaries::busy, s -> s.delete(1, 0));
        changesNothing(checks, "restricted behind a cascade", -14, Boundaries::busy, s -> s.delete(0, 0));
        checks.due("not referred to, set to NULL", busy().delete(0, 2), 1);
        ForeignKeyStore store = busy();
        checks.due("the row that restricts", store.delete(2, 3), 1);
        checks.due("not restricted then", store.delete(0, 0), 2);
    }

    @Sentence("Throws `IndexOutOfBoundsException` if there is no such table or key")
    static void promise7_noSuchTableOrKey(Checks checks) {
        changesNothing(checks, "table -1", INDEX, Boundaries::busy, s -> s.delete(-1, 0));
        changesNothing(checks, "table 4", INDEX, Boundaries::busy, s -> s.delete(4, 0));
        changesNothing(checks, "key -1", INDEX, Boundaries::busy, s -> s.delete(0, -1));
        changesNothing(checks, "key 20, behind which the next table begins", INDEX, Boundaries::busy,
                s -> s.delete(0, 20));
    }

    @Sentence("Throws `IllegalStateException` if the table has no row with this key")
    static void promise7_noRowWithThisKey(Checks checks) {
        changesNothing(checks, "no row at all", STATE, Boundaries::empty, s -> s.delete(0, 0));
        changesNothing(checks, "removed", STATE, Boundaries::busy, s -> s.delete(0, 1));
        changesNothing(checks, "a key of other tables", STATE, Boundaries::busy, s -> s.delete(3, 0));
        ForeignKeyStore store = empty();
        store.insert(3, 19, NULL, NULL);
        checks.due("delete", store.delete(3, 19), 1);
        checks.due("delete again", Checks.answerOf(() -> store.delete(3, 19)), STATE);
        store.insert(3, 19, NULL, NULL);
        checks.due("inserted again", store.delete(3, 19), 1);
    }
}
