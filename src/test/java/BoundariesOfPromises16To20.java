/** Promise 16: exists, 17: value, 18: rows, 19: references, 20: ancestors. */
final class BoundariesOfPromises16To20 extends Boundaries {

    // ---- Promise 16: exists

    @Sentence("Tells whether a row exists.")
    static void promise16_withTheChangesOfTheTransaction(Checks checks) {
        ForeignKeyStore store = busy();
        checks.due("committed", store.exists(0, 0), true);
        checks.due("inserted", store.exists(0, 2), true);
        checks.due("removed", store.exists(0, 1), false);
        store.rollBack();
        checks.due("committed, after rollBack()", store.exists(0, 0), true);
        checks.due("inserted, after rollBack()", store.exists(0, 2), false);
        checks.due("removed, after rollBack()", store.exists(0, 1), true);
    }

    @Sentence("`table`: 0 to 3")
    static void promise16_table0To3(Checks checks) {
        ForeignKeyStore store = empty();
        store.insert(0, 0, NULL, NULL);
        store.insert(3, 19, NULL, NULL);
        checks.due("table 0", store.exists(0, 0), true);
        checks.due("table 3", store.exists(3, 19), true);
        checks.due("table 1", store.exists(1, 0), false);
        checks.due("table 2", store.exists(2, 19), false);
        throwsBeyond(checks, INDEX, 0, 3, "exists, table", (s, t) -> s.exists(t, 0));
    }

    @Sentence("`key`: 0 to 19")
    static void promise16_key0To19(Checks checks) {
        ForeignKeyStore store = empty();
        store.insert(1, 0, NULL, NULL);
        store.insert(1, 19, NULL, NULL);
        checks.due("key 0", store.exists(1, 0), true);
        checks.due("key 19", store.exists(1, 19), true);
        checks.due("key 1", store.exists(1, 1), false);
        checks.due("key 18", store.exists(1, 18), false);
        throwsBeyond(checks, INDEX, 0, 19, "exists, key", (s, k) -> s.exists(1, k));
    }

    @Sentence("Returns true if the table has a row with this key.")
    static void promise16_onlyOneOf80Rows(Checks checks) {
        ForeignKeyStore store = empty();
        store.insert(2, 7, 3, 3);
        for (int table = 0; table < 4; table++) {
            for (int key = 0; key < 20; key++) {
                checks.due("exists(" + table + ", " + key + ")", store.exists(table, key), table == 2 && key == 7);
            }
        }
    }

    @Sentence("Throws `IndexOutOfBoundsException` if there is no such table or key")
    static void promise16_noSuchTableOrKey(Checks checks) {
        changesNothing(checks, "table -1", INDEX, Boundaries::busy, s -> s.exists(-1, 19));
        changesNothing(checks, "table 4", INDEX, Boundaries::busy, s -> s.exists(4, 0));
        changesNothing(checks, "key -1", INDEX, Boundaries::busy, s -> s.exists(1, -1));
        changesNothing(checks, "key 20", INDEX, Boundaries::busy, s -> s.exists(0, 20));
    }

    // ---- Promise 17: value

    @Sentence("Returns the value of a column of a row.")
    static void promise17_ofThisColumnOfThisRow(Checks checks) {
        ForeignKeyStore store = empty();
        for (int table = 0; table < 4; table++) {
            for (int key = 0; key < 20; key++) {
                store.insert(table, key, (table + key) % 20, key - 1);
            }
        }
        for (int table = 0; table < 4; table++) {
            for (int key = 0; key < 20; key++) {
                checks.due("the row", row(store, table, key), (table + key) % 20 + " " + (key - 1));
            }
        }
    }

    @Sentence("`table`: 0 to 3")
    static void promise17_table0To3(Checks checks) {
        ForeignKeyStore store = empty();
        store.insert(0, 0, 5, 6);
        store.insert(3, 0, 7, 8);
        checks.due("table 0", store.value(0, 0, 1), 6);
        checks.due("table 3", store.value(3, 0, 1), 8);
        throwsBeyond(checks, INDEX, 0, 3, "value, table", (s, t) -> s.value(t, 0, 0));
    }

    @Sentence("`key`: 0 to 19")
    static void promise17_key0To19(Checks checks) {
        ForeignKeyStore store = empty();
        store.insert(1, 0, 5, 6);
        store.insert(1, 19, 7, 8);
        checks.due("key 0", store.value(1, 0, 0), 5);
        checks.due("key 19", store.value(1, 19, 0), 7);
        throwsBeyond(checks, INDEX, 0, 19, "value, key", (s, k) -> s.value(1, k, 0));
    }

    @Sentence("`column`: 0 or 1")
    static void promise17_column0Or1(Checks checks) {
        ForeignKeyStore store = empty();
        store.insert(1, 1, 0, 19);
        checks.due("column 0", store.value(1, 1, 0), 0);
        checks.due("column 1", store.value(1, 1, 1), 19);
        throwsBeyond(checks, INDEX, 0, 1, "value, column", (s, c) -> s.value(0, 0, c));
        throwsBeyond(checks, INDEX, 0, 1, "value, column, no row", (s, c) -> s.value(3, 0, c));
    }

    @Sentence("Returns the value; NONE if the table has no row with this key.")
    static void promise17_theValueNullOrNone(Checks checks) {
        ForeignKeyStore store = busy();
        checks.due("a value", store.value(0, 2, 0), 3);
        checks.due("NULL", store.value(0, 2, 1), NULL);
        checks.due("a removed row", store.value(0, 1, 1), NONE);
        checks.due("a row that never was", store.value(0, 3, 0), NONE);
        checks.due("a key of other tables", store.value(3, 0, 0), NONE);
        store.rollBack();
        checks.due("a row that is back", store.value(0, 1, 1), 9);
        checks.due("a row that is gone", store.value(0, 2, 0), NONE);
    }

    @Sentence("Throws `IndexOutOfBoundsException` if there is no such table, key or column")
    static void promise17_noSuchTableKeyOrColumn(Checks checks) {
        changesNothing(checks, "table -1", INDEX, Boundaries::busy, s -> s.value(-1, 0, 0));
        changesNothing(checks, "table 4", INDEX, Boundaries::busy, s -> s.value(4, 0, 0));
        changesNothing(checks, "key -1", INDEX, Boundaries::busy, s -> s.value(1, -1, 0));
        changesNothing(checks, "key 20", INDEX, Boundaries::busy, s -> s.value(0, 20, 0));
        changesNothing(checks, "column -1", INDEX, Boundaries::busy, s -> s.value(1, 0, -1));
        changesNothing(checks, "column 2", INDEX, Boundaries::busy, s -> s.value(0, 0, 2));
    }

    // ---- Promise 18: rows

    @Sentence("Returns the number of rows of a table.")
    static void promise18_ofThisTableOnly(Checks checks) {
        ForeignKeyStore store = busy();
        checks.due("rows(0)", store.rows(0), 2);
        checks.due("rows(1)", store.rows(1), 1);
        checks.due("rows(2)", store.rows(2), 1);
        checks.due("rows(3)", store.rows(3), 0);
    }

    @Sentence("`table`: 0 to 3")
    static void promise18_table0To3(Checks checks) {
        ForeignKeyStore store = empty();
        store.insert(0, 19, NULL, NULL);
        store.insert(3, 0, NULL, NULL);
        checks.due("table 0", store.rows(0), 1);
        checks.due("table 3", store.rows(3), 1);
        throwsBeyond(checks, INDEX, 0, 3, "rows", (s, t) -> s.rows(t));
    }

    @Sentence("Returns the number of rows.")
    static void promise18_from0To20Rows(Checks checks) {
        ForeignKeyStore store = empty();
        checks.due("no row", store.rows(2), 0);
        for (int key = 19; key >= 0; key--) {
            store.insert(2, key, NULL, NULL);
            checks.due("with the key " + key, store.rows(2), 20 - key);
        }
        for (int key = 0; key < 20; key++) {
            store.delete(2, key);
            checks.due("without the key " + key, store.rows(2), 19 - key);
        }
        store.rollBack();
        checks.due("after rollBack()", store.rows(2), 0);
    }

    @Sentence("Throws `IndexOutOfBoundsException` if there is no such table")
    static void promise18_noSuchTable(Checks checks) {
        changesNothing(checks, "table -1", INDEX, Boundaries::busy, s -> s.rows(-1));
        changesNothing(checks, "table 4", INDEX, Boundaries::busy, s -> s.rows(4));
    }

    // ---- Promise 19: references

    private static final String PAIRS = "Counts the references to a row: the pairs of a constraint and a row that "
            + "refers to it by this constraint.";

    @Sentence(PAIRS)
    static void promise19_aRowCountsForEachConstraint(Checks checks) {
        ForeignKeyStore store = empty();
        store.define(1, 0, 0, CASCADE, true);
        store.define(1, 1, 0, NO_ACTION, false);
        store.insert(0, 5, 5, 5);
        checks.due("no reference", store.references(0, 5), 0);
        store.insert(1, 0, 5, NULL);
        checks.due("by one column", store.references(0, 5), 1);
        store.update(1, 0, 1, 5);
        checks.due("by both columns", store.references(0, 5), 2);
        store.insert(1, 19, 4, 5);
        checks.due("by a second row", store.references(0, 5), 3);
    }

    @Sentence(PAIRS)
    static void promise19_aReferenceToItself(Checks checks) {
        ForeignKeyStore store = empty();
        store.define(3, 0, 3, RESTRICT, false);
        store.define(3, 1, 3, SET_NULL, false);
        store.insert(3, 19, 19, NULL);
        checks.due("by one column", store.references(3, 19), 1);
        store.update(3, 19, 1, 19);
        checks.due("by both columns", store.references(3, 19), 2);
        store.delete(3, 19);
        checks.due("of a removed row", store.references(3, 19), 0);
    }

    @Sentence("(The row itself need not exist.)")
    static void promise19_aRowThatDoesNotExist(Checks checks) {
        ForeignKeyStore store = empty();
        checks.due("an empty store", store.references(0, 0), 0);
        store.define(1, 0, 2, NO_ACTION, true);
        store.insert(1, 0, 0, NULL);
        store.insert(1, 1, 19, NULL);
        checks.due("references(2, 0)", store.references(2, 0), 1);
        checks.due("references(2, 19)", store.references(2, 19), 1);
        checks.due("references(2, 1)", store.references(2, 1), 0);
        store.insert(2, 0, NULL, NULL);
        checks.due("with the row", store.references(2, 0), 1);
    }

    @Sentence("`table`: 0 to 3")
    static void promise19_table0To3(Checks checks) {
        for (int table = 0; table < 4; table++) {
            ForeignKeyStore store = empty();
            store.define(1, 1, table, CASCADE, true);
            store.insert(1, 1, NULL, 7);
            checks.due("references(" + table + ", 7)", store.references(table, 7), 1);
        }
        throwsBeyond(checks, INDEX, 0, 3, "references, table", (s, t) -> s.references(t, 0));
    }

    @Sentence("`key`: 0 to 19")
    static void promise19_key0To19(Checks checks) {
        ForeignKeyStore store = empty();
        store.define(0, 0, 1, CASCADE, true);
        store.insert(0, 0, 0, NULL);
        store.insert(0, 19, 19, NULL);
        checks.due("key 0", store.references(1, 0), 1);
        checks.due("key 19", store.references(1, 19), 1);
        throwsBeyond(checks, INDEX, 0, 19, "references, key", (s, k) -> s.references(1, k));
    }

    @Sentence("Returns the number of these pairs.")
    static void promise19_from0To160Pairs(Checks checks) {
        ForeignKeyStore store = empty();
        for (int number = 0; number < 8; number++) {
            store.define(number / 2, number % 2, 2, CASCADE, true);
        }
        checks.due("no row", store.references(2, 19), 0);
        fill(store, 19, 19);
        checks.due("all columns of all rows", store.references(2, 19), 160);
        checks.due("the key beside it", store.references(2, 18), 0);
        checks.due("the table beside it", store.references(3, 19), 0);
    }

    @Sentence("Throws `IndexOutOfBoundsException` if there is no such table or key")
    static void promise19_noSuchTableOrKey(Checks checks) {
        changesNothing(checks, "table -1", INDEX, Boundaries::busy, s -> s.references(-1, 0));
        changesNothing(checks, "table 4", INDEX, Boundaries::busy, s -> s.references(4, 0));
        changesNothing(checks, "key -1", INDEX, Boundaries::busy, s -> s.references(1, -1));
        changesNothing(checks, "key 20", INDEX, Boundaries::busy, s -> s.references(0, 20));
    }

    // ---- Promise 20: ancestors

    private static final String COUNTS = "Counts the rows to which one comes from a row by references: the existing "
            + "rows to which it refers, those to which these refer, and so on.";

    @Sentence(COUNTS)
    static void promise20_existingRowsOnly(Checks checks) {
        ForeignKeyStore store = empty();
        store.define(0, 0, 1, NO_ACTION, true);
        store.define(1, 0, 2, NO_ACTION, true);
        store.insert(0, 0, 5, NULL);
        store.insert(2, 5, NULL, NULL);
        checks.due("a row that does not exist", store.ancestors(0, 0), 0);
        store.insert(1, 5, 5, NULL);
        checks.due("the rows behind it, too", store.ancestors(0, 0), 2);
        store.delete(2, 5);
        checks.due("the last row removed", store.ancestors(0, 0), 1);
    }

    @Sentence(COUNTS)
    static void promise20_byConstraintsOnly(Checks checks) {
        ForeignKeyStore store = empty();
        store.define(0, 1, 0, NO_ACTION, true);
        store.insert(0, 0, 1, NULL);
        store.insert(0, 1, NULL, NULL);
        store.insert(1, 0, 1, 1);
        checks.due("a column without a constraint", store.ancestors(0, 0), 0);
        checks.due("a table without a constraint", store.ancestors(1, 0), 0);
        store.update(0, 0, 1, 1);
        checks.due("the column with the constraint", store.ancestors(0, 0), 1);
    }

    @Sentence(COUNTS)
    static void promise20_aRowOnTwoWays(Checks checks) {
        ForeignKeyStore store = empty();
        store.define(0, 0, 1, NO_ACTION, true);
        store.define(0, 1, 1, NO_ACTION, true);
        store.define(1, 0, 2, NO_ACTION, true);
        store.insert(2, 0, NULL, NULL);
        store.insert(1, 0, 0, NULL);
        store.insert(1, 19, 0, NULL);
        store.insert(0, 0, 0, 0);
        checks.due("by both columns", store.ancestors(0, 0), 2);
        store.update(0, 0, 1, 19);
        checks.due("by two rows", store.ancestors(0, 0), 3);
    }

    @Sentence(COUNTS)
    static void promise20_notTheRowsThatReferToIt(Checks checks) {
        ForeignKeyStore store = empty();
        store.define(0, 0, 1, NO_ACTION, true);
        store.insert(1, 3, NULL, NULL);
        store.insert(0, 0, 3, NULL);
        checks.due("of the row that is referred to", store.ancestors(1, 3), 0);
        checks.due("of the row that refers", store.ancestors(0, 0), 1);
    }

    @Sentence("`table`: 0 to 3")
    static void promise20_table0To3(Checks checks) {
        for (int table = 0; table < 4; table++) {
            ForeignKeyStore store = empty();
            store.define(table, 1, 2, CASCADE, true);
            store.insert(2, 19, NULL, NULL);
            store.insert(table, 7, NULL, 19);
            checks.due("ancestors(" + table + ", 7)", store.ancestors(table, 7), 1);
        }
        throwsBeyond(checks, INDEX, 0, 3, "ancestors, table", (s, t) -> s.ancestors(t, 0));
    }

    @Sentence("`key`: 0 to 19")
    static void promise20_key0To19(Checks checks) {
        ForeignKeyStore store = empty();
        store.define(1, 0, 1, CASCADE, true);
        store.insert(1, 0, 19, NULL);
        store.insert(1, 19, NULL, NULL);
        checks.due("key 0", store.ancestors(1, 0), 1);
        checks.due("key 19", store.ancestors(1, 19), 0);
        throwsBeyond(checks, INDEX, 0, 19, "ancestors, key", (s, k) -> s.ancestors(1, k));
    }

    private static final String ITSELF = "Returns the number of these rows, the row itself counted only if one comes "
            + "back to it; NONE if the row does not exist.";

    @Sentence(ITSELF)
    static void promise20_from0To80Rows(Checks checks) {
        ForeignKeyStore store = empty();
        for (int table = 0; table < 4; table++) {
            store.define(table, 0, (table + 1) % 4, NO_ACTION, true);
        }
        for (int table = 0; table < 4; table++) {
            for (int key = 0; key < 20; key++) {
                store.insert(table, key, table < 3 ? key : key - 1, NULL);
            }
        }
        checks.due("the end of the chain", store.ancestors(3, 0), 0);
        checks.due("the row before it", store.ancestors(2, 0), 1);
        checks.due("the begin of the chain", store.ancestors(0, 19), 79);
        store.update(3, 0, 0, 19);
        checks.due("a circle of all rows", store.ancestors(0, 19), 80);
        checks.due("its last row", store.ancestors(3, 0), 80);
        checks.due("another of its rows", store.ancestors(1, 7), 80);
    }

    @Sentence(ITSELF)
    static void promise20_oneComesBack(Checks checks) {
        ForeignKeyStore store = empty();
        store.define(3, 0, 3, NO_ACTION, true);
        store.define(3, 1, 3, NO_ACTION, true);
        store.insert(3, 19, 19, NULL);
        checks.due("a row that refers to itself", store.ancestors(3, 19), 1);
        store.update(3, 19, 1, 19);
        checks.due("by both columns", store.ancestors(3, 19), 1);
        store.insert(3, 0, 19, NULL);
        checks.due("a row that refers to it", store.ancestors(3, 0), 1);
        store.update(3, 19, 1, 0);
        checks.due("two rows that refer to each other", store.ancestors(3, 0), 2);
        checks.due("the other of them", store.ancestors(3, 19), 2);
        store.insert(3, 5, 0, NULL);
        checks.due("a row that is not in the circle", store.ancestors(3, 5), 2);
    }

    @Sentence(ITSELF)
    static void promise20_noneIfTheRowDoesNotExist(Checks checks) {
        ForeignKeyStore store = empty();
        checks.due("an empty store", store.ancestors(0, 0), NONE);
        store.define(1, 0, 0, NO_ACTION, true);
        store.insert(1, 0, 5, NULL);
        checks.due("a row that is referred to", store.ancestors(0, 5), NONE);
        store.insert(0, 5, NULL, NULL);
        checks.due("inserted", store.ancestors(0, 5), 0);
        store.delete(0, 5);
        checks.due("removed", store.ancestors(0, 5), NONE);
    }

    @Sentence("Throws `IndexOutOfBoundsException` if there is no such table or key")
    static void promise20_noSuchTableOrKey(Checks checks) {
        changesNothing(checks, "table -1", INDEX, Boundaries::busy, s -> s.ancestors(-1, 0));
        changesNothing(checks, "table 4", INDEX, Boundaries::busy, s -> s.ancestors(4, 0));
        changesNothing(checks, "key -1", INDEX, Boundaries::busy, s -> s.ancestors(1, -1));
        changesNothing(checks, "key 20", INDEX, Boundaries::busy, s -> s.ancestors(0, 20));
    }
}
