/**
 * Promise 21: constraint, 22: constraints, 23: firstViolation, 24: ifDeleted, 25: changes,
 * 26: savePoints, 27: textLength.
 */
final class BoundariesOfPromises21To27 extends Boundaries {

    // ---- Promise 21: constraint

    @Sentence("Returns a part of a constraint.")
    static void promise21_ofThisConstraintOnly(Checks checks) {
        ForeignKeyStore store = empty();
        for (int number = 0; number < 8; number++) {
            store.define(number / 2, number % 2, (number + 1) % 4, number / 2, number % 2 == 1);
        }
        for (int number = 0; number < 8; number++) {
            int table = number / 2;
            int column = number % 2;
            checks.due("the parent of " + number, store.constraint(table, column, 0), (number + 1) % 4);
            checks.due("the action of " + number, store.constraint(table, column, 1), table);
            checks.due("the mode of " + number, store.constraint(table, column, 2), column);
            checks.due("the violations of " + number, store.constraint(table, column, 3), 0);
        }
    }

    @Sentence("`table`: 0 to 3")
    static void promise21_table0To3(Checks checks) {
        for (int table = 0; table < 4; table++) {
            ForeignKeyStore store = empty();
            store.define(table, 0, 2, CASCADE, true);
            for (int asked = 0; asked < 4; asked++) {
                checks.due("the constraint of " + asked, store.constraint(asked, 0, 0), asked == table ? 2 : NONE);
            }
        }
        throwsBeyond(checks, INDEX, 0, 3, "constraint, table", (s, t) -> s.constraint(t, 0, 0));
    }

    @Sentence("`column`: 0 or 1")
    static void promise21_column0Or1(Checks checks) {
        for (int column = 0; column < 2; column++) {
            ForeignKeyStore store = empty();
            store.define(3, column, 2, CASCADE, true);
            checks.due("the column", store.constraint(3, column, 0), 2);
            checks.due("the other column", store.constraint(3, 1 - column, 0), NONE);
        }
        throwsBeyond(checks, INDEX, 0, 1, "constraint, column", (s, c) -> s.constraint(1, c, 0));
    }

    private static final String PARTS = "`part`: 0: the parent table; 1: the action; 2: the mode, 1 for deferred and 0 "
            + "for immediate; 3: the number of rows that violate it";

    @Sentence(PARTS)
    static void promise21_parts0To3(Checks checks) {
        ForeignKeyStore store = empty();
        store.define(0, 0, 3, SET_NULL, true);
        store.insert(0, 0, 7, NULL);
        checks.due("the part 0", store.constraint(0, 0, 0), 3);
        checks.due("the part 1", store.constraint(0, 0, 1), SET_NULL);
        checks.due("the part 2", store.constraint(0, 0, 2), 1);
        checks.due("the part 3", store.constraint(0, 0, 3), 1);
        throwsBeyond(checks, ARGUMENT, 0, 3, "constraint, part", (s, p) -> s.constraint(1, 0, p));
    }

    @Sentence(PARTS)
    static void promise21_from0To20ViolatingRows(Checks checks) {
        ForeignKeyStore store = empty();
        store.define(0, 1, 0, NO_ACTION, true);
        store.define(0, 0, 1, NO_ACTION, true);
        checks.due("no row", store.constraint(0, 0, 3), 0);
        for (int key = 0; key < 20; key++) {
            store.insert(0, key, 19, key);
            checks.due("rows that violate it", store.constraint(0, 0, 3), key + 1);
            checks.due("rows that refer to themselves", store.constraint(0, 1, 3), 0);
        }
        store.update(0, 0, 0, NULL);
        checks.due("one NULL", store.constraint(0, 0, 3), 19);
        store.insert(1, 19, NULL, NULL);
        checks.due("with the parent row", store.constraint(0, 0, 3), 0);
        store.delete(0, 7);
        checks.due("a row removed", store.constraint(0, 1, 3), 0);
        store.update(0, 0, 1, 7);
        checks.due("a reference to it", store.constraint(0, 1, 3), 1);
    }

    @Sentence(PARTS)
    static void promise21_violatedThoughImmediate(Checks checks) {
        ForeignKeyStore store = violatedByRollBack();
        checks.due("the part 2", store.constraint(1, 0, 2), 0);
        checks.due("the part 3", store.constraint(1, 0, 3), 1);
    }

    @Sentence("Returns the part; NONE if there is no such constraint.")
    static void promise21_noneWithoutAConstraint(Checks checks) {
        ForeignKeyStore store = quiet();
        store.drop(1, 0);
        for (int part = 0; part < 4; part++) {
            checks.due("never defined, part " + part, store.constraint(0, 0, part), NONE);
            checks.due("dropped, part " + part, store.constraint(1, 0, part), NONE);
        }
        checks.due("another column", store.constraint(2, 1, 1), NONE);
        checks.due("the part 0 that is 0", store.constraint(1, 1, 0), 0);
    }

    @Sentence("Throws `IndexOutOfBoundsException` if there is no such table or column")
    static void promise21_noSuchTableOrColumn(Checks checks) {
        changesNothing(checks, "table -1", INDEX, Boundaries::busy, s -> s.constraint(-1, 1, 0));
        changesNothing(checks, "table 4", INDEX, Boundaries::busy, s -> s.constraint(4, 0, 0));
        changesNothing(checks, "column -1", INDEX, Boundaries::busy, s -> s.constraint(2, -1, 0));
        changesNothing(checks, "column 2", INDEX, Boundaries::busy, s -> s.constraint(1, 2, 0));
    }

    @Sentence("Throws `IllegalArgumentException` if part is not 0 to 3")
    static void promise21_noSuchPart(Checks checks) {
        changesNothing(checks, "part -1", ARGUMENT, Boundaries::busy, s -> s.constraint(1, 0, -1));
        changesNothing(checks, "part 4", ARGUMENT, Boundaries::busy, s -> s.constraint(1, 0, 4));
        changesNothing(checks, "no constraint", ARGUMENT, Boundaries::busy, s -> s.constraint(0, 0, -1));
    }

    // ---- Promise 22: constraints

    @Sentence("Returns the number of constraints.")
    static void promise22_from0To8Constraints(Checks checks) {
        ForeignKeyStore store = empty();
        checks.due("no constraint", store.constraints(), 0);
        for (int number = 0; number < 8; number++) {
            int table = number / 2;
            int column = number % 2;
            store.define(table, column, 1, CASCADE, false);
            checks.due("with the constraint " + number, store.constraints(), number + 1);
            checks.due("defined again", Checks.answerOf(() -> store.define(table, column, 1, 0, false)), STATE);
            checks.due("constraints() after it", store.constraints(), number + 1);
        }
        for (int number = 0; number < 8; number++) {
            store.drop(number / 2, number % 2);
            checks.due("without the constraint " + number, store.constraints(), 7 - number);
        }
    }

    // ---- Promise 23: firstViolation

    private static final String FIRST = "Returns the code of the refusal with which commit() would be refused now; 0 if "
            + "it would not be refused.";

    @Sentence(FIRST)
    static void promise23_notRefused(Checks checks) {
        checks.due("an empty store", empty().firstViolation(), 0);
        checks.due("without changes", quiet().firstViolation(), 0);
        checks.due("with changes", busy().firstViolation(), 0);
        ForeignKeyStore store = empty();
        store.insert(0, 0, 19, 19);
        checks.due("without constraints", store.firstViolation(), 0);
    }

    @Sentence(FIRST)
    static void promise23_codesFrom10To17(Checks checks) {
        ForeignKeyStore store = empty();
        for (int number = 0; number < 8; number++) {
            store.define(number / 2, number % 2, 0, SET_NULL, true);
        }
        for (int table = 0; table < 4; table++) {
            store.insert(table, 5, 6, 6);
        }
        for (int number = 0; number < 8; number++) {
            checks.due("violated from " + number, store.firstViolation(), -10 - number);
            checks.due("commit()", store.commit(), -10 - number);
            store.update(number / 2, 5, number % 2, 5);
            store.setMode(number / 2, number % 2, number % 3 == 0);
            if (number == 3) {
                store.insert(0, 19, NULL, NULL);
            }
        }
        // The rows of the tables 1 to 3 refer to the row 5 of the table 0, as this row itself does.
        checks.due("violated by none", store.firstViolation(), 0);
        checks.due("commit() then", store.commit(), 13);
    }

    @Sentence(FIRST)
    static void promise23_anImmediateConstraintToo(Checks checks) {
        ForeignKeyStore store = violatedByRollBack();
        checks.due("firstViolation()", store.firstViolation(), -12);
        store.rollBack();
        checks.due("after rollBack()", store.firstViolation(), 0);
    }

    // ---- Promise 24: ifDeleted

    private static void asDelete(Checks checks, java.util.function.Supplier<ForeignKeyStore> prepare, int table, int key) {
        Object due = prepare.get().delete(table, key);
        changesNothing(checks, "ifDeleted(" + table + ", " + key + ")", due, prepare, s -> s.ifDeleted(table, key));
    }

    @Sentence("Tells what delete() would return now.")
    static void promise24_asDelete(Checks checks) {
        asDelete(checks, Boundaries::quiet, 0, 0);
        asDelete(checks, Boundaries::quiet, 0, 1);
        asDelete(checks, Boundaries::quiet, 1, 0);
        asDelete(checks, Boundaries::quiet, 2, 3);
        asDelete(checks, Boundaries::busy, 0, 0);
        asDelete(checks, Boundaries::busy, 0, 2);
        asDelete(checks, Boundaries::busy, 1, 0);
        asDelete(checks, Boundaries::busy, 2, 3);
        asDelete(checks, Boundaries::violatedByRollBack, 3, 3);
        asDelete(checks, Boundaries::violatedByRollBack, 1, 0);
        checks.due("a cascade", cascading().ifDeleted(0, 0), 2);
        checks.due("the row that violates removed", violatedByRollBack().ifDeleted(1, 0), 1);
        checks.due("another row removed", violatedByRollBack().ifDeleted(3, 3), -12);
    }

    private static ForeignKeyStore cascading() {
        ForeignKeyStore store = busy();
        store.delete(2, 3);
        return store;
    }

    @Sentence("`table`: 0 to 3")
    static void promise24_table0To3(Checks checks) {
        ForeignKeyStore store = empty();
        store.insert(0, 5, NULL, NULL);
        store.insert(3, 5, NULL, NULL);
        checks.due("table 0", store.ifDeleted(0, 5), 1);
        checks.due("table 3", store.ifDeleted(3, 5), 1);
        checks.due("table 1", store.ifDeleted(1, 5), NONE);
        throwsBeyond(checks, INDEX, 0, 3, "ifDeleted, table", (s, t) -> s.ifDeleted(t, 0));
    }

    @Sentence("`key`: 0 to 19")
    static void promise24_key0To19(Checks checks) {
        ForeignKeyStore store = empty();
        store.insert(1, 0, NULL, NULL);
        store.insert(1, 19, NULL, NULL);
        checks.due("key 0", store.ifDeleted(1, 0), 1);
        checks.due("key 19", store.ifDeleted(1, 19), 1);
        checks.due("key 18", store.ifDeleted(1, 18), NONE);
        throwsBeyond(checks, INDEX, 0, 19, "ifDeleted, key", (s, k) -> s.ifDeleted(1, k));
    }

    private static final String WOULD = "Returns the number of rows that would be removed, or the code of the refusal; "
            + "NONE if the row does not exist.";

    @Sentence(WOULD)
    static void promise24_from1To80Rows(Checks checks) {
        ForeignKeyStore store = empty();
        for (int table = 0; table < 4; table++) {
            store.define(table, 1, 0, CASCADE, true);
        }
        checks.due("no row", store.ifDeleted(0, 0), NONE);
        fill(store, NULL, 0);
        checks.due("one row", store.ifDeleted(3, 19), 1);
        checks.due("all rows", store.ifDeleted(0, 0), 80);
        checks.due("all rows again", store.ifDeleted(0, 0), 80);
        checks.due("changes()", store.changes(), 80);
        checks.due("rows", store.rows(0) + store.rows(1) + store.rows(2) + store.rows(3), 80);
        checks.due("delete(0, 0)", store.delete(0, 0), 80);
        checks.due("removed", store.ifDeleted(0, 0), NONE);
        checks.due("removed by the cascade", store.ifDeleted(3, 19), NONE);
    }

    @Sentence(WOULD)
    static void promise24_codesFrom10To17(Checks checks) {
        for (int number = 0; number < 8; number++) {
            int table = number / 2;
            int parent = (table + 3) % 4;
            for (int action = RESTRICT; action <= NO_ACTION; action++) {
                ForeignKeyStore store = empty();
                store.define(table, number % 2, parent, action, false);
                store.insert(parent, 0, NULL, NULL);
                store.insert(table, 0, 0, 0);
                checks.due("refused by " + number, store.ifDeleted(parent, 0), -10 - number);
                checks.due("exists", store.exists(parent, 0), true);
                checks.due("changes()", store.changes(), 2);
            }
        }
    }

    @Sentence("Throws `IndexOutOfBoundsException` if there is no such table or key")
    static void promise24_noSuchTableOrKey(Checks checks) {
        changesNothing(checks, "table -1", INDEX, Boundaries::busy, s -> s.ifDeleted(-1, 0));
        changesNothing(checks, "table 4", INDEX, Boundaries::busy, s -> s.ifDeleted(4, 0));
        changesNothing(checks, "key -1", INDEX, Boundaries::busy, s -> s.ifDeleted(1, -1));
        changesNothing(checks, "key 20", INDEX, Boundaries::busy, s -> s.ifDeleted(0, 20));
    }

    // ---- Promise 25: changes

    @Sentence("Returns the number of changes of the transaction.")
    static void promise25_noChange(Checks checks) {
        checks.due("an empty store", empty().changes(), 0);
        checks.due("constraints, a savepoint and a text", quiet().changes(), 0);
        ForeignKeyStore store = busy();
        store.rollBack();
        checks.due("after rollBack()", store.changes(), 0);
        store.insert(0, 9, NULL, NULL);
        store.commit();
        checks.due("after commit()", store.changes(), 0);
    }

    @Sentence("Returns the number of changes of the transaction.")
    static void promise25_oneAfterTheOther(Checks checks) {
        ForeignKeyStore store = empty();
        store.insert(0, 0, NULL, NULL);
        for (int change = 1; change < 250; change++) {
            checks.due("changes()", store.changes(), change);
            store.update(0, 0, change % 2, change % 20);
        }
        checks.due("rollBack()", store.rollBack(), 250);
    }

    // ---- Promise 26: savePoints

    @Sentence("Returns the number of savepoints.")
    static void promise26_from0To4Savepoints(Checks checks) {
        ForeignKeyStore store = empty();
        checks.due("no savepoint", store.savePoints(), 0);
        for (int point = 0; point < 4; point++) {
            store.savePoint();
            checks.due("with the savepoint " + point, store.savePoints(), point + 1);
        }
        checks.due("a fifth", Checks.answerOf(store::savePoint), STATE);
        checks.due("after it", store.savePoints(), 4);
        for (int point = 3; point >= 0; point--) {
            store.rollBackTo(point);
            checks.due("after rollBackTo(" + point + ")", store.savePoints(), point + 1);
        }
        store.commit();
        checks.due("after commit()", store.savePoints(), 0);
    }

    // ---- Promise 27: textLength

    @Sentence("Returns the length of the text.")
    static void promise27_from0To80Characters(Checks checks) {
        ForeignKeyStore store = empty();
        checks.due("no text", store.textLength(), 0);
        for (int length = 1; length <= 80; length++) {
            store.appendText(' ');
            checks.due("textLength()", store.textLength(), length);
        }
        checks.due("the 81st character", Checks.answerOf(() -> store.appendText(' ')), STATE);
        checks.due("after it", store.textLength(), 80);
        store.clearText();
        checks.due("after clearText()", store.textLength(), 0);
    }
}
