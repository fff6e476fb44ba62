/** Promises 1 to 4, 21 to 23: the new object, and the constraints. */
public final class ConstraintTests {
    private static final Checks CHECKS = new Checks();
    private static final int RESTRICT = ForeignKeyStore.RESTRICT;
    private static final int NO_ACTION = ForeignKeyStore.NO_ACTION;
    private static final int CASCADE = ForeignKeyStore.CASCADE;
    private static final int SET_NULL = ForeignKeyStore.SET_NULL;
    private static final int NULL = ForeignKeyStore.NULL;
    private static final int NONE = ForeignKeyStore.NONE;

    private static void newObject() {
        CHECKS.about("promise 1");
        ForeignKeyStore store = new ForeignKeyStore();
        for (int table = 0; table < 4; table++) {
            CHECKS.due("rows(" + table + ")", store.rows(table), 0);
            for (int key = 0; key < 20; key++) {
                CHECKS.due("exists(" + table + ", " + key + ")", store.exists(table, key), false);
            }
            for (int column = 0; column < 2; column++) {
                CHECKS.due("constraint(" + table + ", " + column + ", 0)",
                        store.constraint(table, column, 0), NONE);
            }
        }
        CHECKS.due("constraints()", store.constraints(), 0);
        CHECKS.due("firstViolation()", store.firstViolation(), 0);
        CHECKS.due("changes()", store.changes(), 0);
        CHECKS.due("savePoints()", store.savePoints(), 0);
        CHECKS.due("textLength()", store.textLength(), 0);
        CHECKS.due("errorPosition()", store.errorPosition(), 0);
        ForeignKeyStore other = new ForeignKeyStore();
        other.define(1, 1, 0, CASCADE, true);
        other.insert(0, 0, NULL, NULL);
        CHECKS.due("rows(0) beside another object", store.rows(0), 0);
        CHECKS.due("constraints() beside another object", store.constraints(), 0);
    }

    private static void define() {
        CHECKS.about("promise 2");
        ForeignKeyStore store = new ForeignKeyStore();
        int defined = 0;
        for (int table = 0; table < 4; table++) {
            for (int column = 0; column < 2; column++) {
                defined++;
                boolean deferred = column == 1;
                CHECKS.due("define " + defined, store.define(table, column, 3 - table, table, deferred), defined);
                CHECKS.due("part 0", store.constraint(table, column, 0), 3 - table);
                CHECKS.due("part 1", store.constraint(table, column, 1), table);
                CHECKS.due("part 2", store.constraint(table, column, 2), column);
                CHECKS.due("part 3", store.constraint(table, column, 3), 0);
            }
        }
        CHECKS.due("constraints()", store.constraints(), 8);
        store.drop(2, 0);
        CHECKS.due("define after drop", store.define(2, 0, 2, NO_ACTION, true), 8);
        CHECKS.due("the parent can be the table", store.constraint(2, 0, 0), 2);
    }

    private static void defineWithWrongInputs() {
        CHECKS.about("promise 2, exceptions");
        ForeignKeyStore store = new ForeignKeyStore();
        store.define(0, 0, 1, RESTRICT, false);
        String before = Checks.stateOf(store);
        CHECKS.outOfBounds("table -1", () -> store.define(-1, 1, 1, 0, false));
        CHECKS.outOfBounds("table 4", () -> store.define(4, 1, 1, 0, false));
        CHECKS.outOfBounds("column -1", () -> store.define(0, -1, 1, 0, false));
        CHECKS.outOfBounds("column 2", () -> store.define(0, 2, 1, 0, false));
        CHECKS.outOfBounds("parent -1", () -> store.define(0, 1, -1, 0, false));
        CHECKS.outOfBounds("parent 4", () -> store.define(0, 1, 4, 0, false));
        CHECKS.outOfBounds("parent 4 and action 4", () -> store.define(0, 0, 4, 4, false));
        CHECKS.outOfBounds("lowest table", () -> store.define(Integer.MIN_VALUE, 0, 0, 0, false));
        CHECKS.outOfBounds("highest table", () -> store.define(Integer.MAX_VALUE, 0, 0, 0, false));
        CHECKS.illegalArgument("action -1", () -> store.define(0, 1, 1, -1, false));
        CHECKS.illegalArgument("action 4", () -> store.define(0, 1, 1, 4, false));
        CHECKS.illegalArgument("action 4 and defined", () -> store.define(0, 0, 1, 4, false));
        CHECKS.illegalState("defined", () -> store.define(0, 0, 1, 0, false));
        CHECKS.illegalState("defined otherwise", () -> store.define(0, 0, 2, 1, true));
        CHECKS.due("the state after exceptions", Checks.stateOf(store), before);
    }

    private static void defineInAStateThatForbidsIt() {
        CHECKS.about("promise 2, states");
        ForeignKeyStore store = new ForeignKeyStore();
        store.insert(0, 3, 7, NULL);
        CHECKS.illegalState("with changes", () -> store.define(1, 0, 2, CASCADE, false));
        CHECKS.illegalArgument("action 9 with changes", () -> store.define(1, 0, 2, 9, false));
        store.commit();
        CHECKS.illegalState("immediate, violated", () -> store.define(0, 0, 1, NO_ACTION, false));
        CHECKS.illegalState("deferred, violated", () -> store.define(0, 0, 1, NO_ACTION, true));
        CHECKS.illegalState("violated in its own table", () -> store.define(0, 0, 0, CASCADE, true));
        CHECKS.due("another column", store.define(0, 1, 1, CASCADE, true), 1);
        store.insert(1, 7, NULL, NULL);
        CHECKS.illegalState("with one change", () -> store.define(0, 0, 1, CASCADE, true));
        store.savePoint();
        store.commit();
        store.savePoint();
        CHECKS.due("with a savepoint", store.define(0, 0, 1, CASCADE, false), 2);
        CHECKS.due("the savepoint stays", store.savePoints(), 1);
    }

    private static void drop() {
        CHECKS.about("promise 3");
        ForeignKeyStore store = new ForeignKeyStore();
        store.define(3, 1, 0, CASCADE, true);
        store.define(0, 1, 3, RESTRICT, false);
        store.insert(3, 2, NULL, 5);
        CHECKS.illegalState("with changes", () -> store.drop(3, 1));
        CHECKS.due("constraints()", store.constraints(), 2);
        store.rollBack();
        String before = Checks.stateOf(store);
        CHECKS.illegalState("no such constraint", () -> store.drop(3, 0));
        CHECKS.outOfBounds("table -1", () -> store.drop(-1, 0));
        CHECKS.outOfBounds("table 4", () -> store.drop(4, 0));
        CHECKS.outOfBounds("column -1", () -> store.drop(3, -1));
        CHECKS.outOfBounds("column 2", () -> store.drop(3, 2));
        CHECKS.due("the state after exceptions", Checks.stateOf(store), before);
        CHECKS.due("drop(3, 1)", store.drop(3, 1), 1);
        CHECKS.due("constraint(3, 1, 1)", store.constraint(3, 1, 1), NONE);
        CHECKS.illegalState("dropped already", () -> store.drop(3, 1));
        CHECKS.due("insert, not checked any more", store.insert(3, 2, NULL, 5), 1);
        CHECKS.due("commit()", store.commit(), 1);
        CHECKS.due("drop(0, 1)", store.drop(0, 1), 0);
        store.insert(0, 0, NULL, NULL);
        CHECKS.outOfBounds("table 4 with changes", () -> store.drop(4, 0));
    }

    private static void setMode() {
        CHECKS.about("promise 4");
        ForeignKeyStore store = new ForeignKeyStore();
        store.define(1, 1, 2, NO_ACTION, false);
        CHECKS.due("immediate already", store.setMode(1, 1, false), 0);
        CHECKS.due("to deferred", store.setMode(1, 1, true), 1);
        CHECKS.due("deferred already", store.setMode(1, 1, true), 0);
        store.insert(1, 0, NULL, 19);
        CHECKS.due("violated", store.setMode(1, 1, false), -13);
        CHECKS.due("the mode stays", store.constraint(1, 1, 2), 1);
        CHECKS.due("deferred already, violated", store.setMode(1, 1, true), 0);
        store.insert(2, 19, NULL, NULL);
        CHECKS.due("with changes", store.setMode(1, 1, false), 1);
        CHECKS.due("changes()", store.changes(), 2);
        CHECKS.due("refused", store.delete(2, 19), -13);
        store.rollBack();
        CHECKS.due("modes are not undone", store.constraint(1, 1, 2), 0);
        String before = Checks.stateOf(store);
        CHECKS.illegalState("no such constraint", () -> store.setMode(1, 0, true));
        CHECKS.outOfBounds("table -1", () -> store.setMode(-1, 0, true));
        CHECKS.outOfBounds("table 4", () -> store.setMode(4, 0, true));
        CHECKS.outOfBounds("column -1", () -> store.setMode(1, -1, true));
        CHECKS.outOfBounds("column 2", () -> store.setMode(1, 2, true));
        CHECKS.due("the state after exceptions", Checks.stateOf(store), before);
    }

    private static void setModeOfAnImmediateViolatedConstraint() {
        CHECKS.about("promise 4, immediate and violated");
        ForeignKeyStore store = new ForeignKeyStore();
        store.define(0, 0, 1, NO_ACTION, true);
        store.insert(0, 0, 5, NULL);
        store.savePoint();
        store.insert(1, 5, NULL, NULL);
        store.setMode(0, 0, false);
        store.rollBackTo(0);
        CHECKS.due("violations", store.constraint(0, 0, 3), 1);
        CHECKS.due("it is this mode already", store.setMode(0, 0, false), 0);
        CHECKS.due("to deferred", store.setMode(0, 0, true), 1);
        CHECKS.due("back to immediate", store.setMode(0, 0, false), -10);
    }

    private static void constraint() {
        CHECKS.about("promise 21");
        ForeignKeyStore store = new ForeignKeyStore();
        store.define(2, 1, 3, SET_NULL, true);
        store.insert(2, 0, 4, 4);
        store.insert(2, 1, NULL, 4);
        store.insert(2, 19, NULL, 0);
        store.insert(2, 5, 6, NULL);
        store.insert(3, 0, NULL, NULL);
        CHECKS.due("part 0", store.constraint(2, 1, 0), 3);
        CHECKS.due("part 1", store.constraint(2, 1, 1), 3);
        CHECKS.due("part 2", store.constraint(2, 1, 2), 1);
        CHECKS.due("part 3", store.constraint(2, 1, 3), 2);
        for (int part = 0; part < 4; part++) {
            CHECKS.due("none, part " + part, store.constraint(2, 0, part), NONE);
        }
        CHECKS.illegalArgument("part -1", () -> store.constraint(2, 1, -1));
        CHECKS.illegalArgument("part 4", () -> store.constraint(2, 1, 4));
        CHECKS.illegalArgument("part 4, none", () -> store.constraint(2, 0, 4));
        CHECKS.outOfBounds("table -1", () -> store.constraint(-1, 0, 0));
        CHECKS.outOfBounds("table 4", () -> store.constraint(4, 0, 0));
        CHECKS.outOfBounds("column -1", () -> store.constraint(0, -1, 0));
        CHECKS.outOfBounds("column 2", () -> store.constraint(0, 2, 0));
        CHECKS.outOfBounds("column 2 and part 4", () -> store.constraint(0, 2, 4));
        store.rollBack();
        store.define(1, 1, 3, SET_NULL, true);
        store.insert(2, 0, NULL, 4);
        CHECKS.due("part 3, rows of the next table", store.constraint(1, 1, 3), 0);
        CHECKS.due("part 3, rows of the table", store.constraint(2, 1, 3), 1);
        CHECKS.due("part 3 of all keys", violationsOfAFullTable(), 20);
    }

    private static int violationsOfAFullTable() {
        ForeignKeyStore store = new ForeignKeyStore();
        store.define(3, 0, 0, NO_ACTION, true);
        for (int key = 0; key < 20; key++) {
            store.insert(3, key, 19 - key, NULL);
        }
        return store.constraint(3, 0, 3);
    }

    private static void constraints() {
        CHECKS.about("promise 22");
        ForeignKeyStore store = new ForeignKeyStore();
        store.define(0, 0, 0, CASCADE, false);
        store.define(3, 1, 0, CASCADE, false);
        CHECKS.due("two", store.constraints(), 2);
        store.rollBack();
        CHECKS.due("after rollBack", store.constraints(), 2);
        store.commit();
        CHECKS.due("after commit", store.constraints(), 2);
        store.drop(0, 0);
        CHECKS.due("one", store.constraints(), 1);
        CHECKS.illegalState("none", () -> store.drop(0, 0));
        CHECKS.due("still one", store.constraints(), 1);
    }

    private static void firstViolation() {
        CHECKS.about("promise 23");
        ForeignKeyStore store = new ForeignKeyStore();
        store.define(3, 1, 0, NO_ACTION, true);
        store.define(1, 0, 2, NO_ACTION, true);
        CHECKS.due("none", store.firstViolation(), 0);
        store.insert(3, 3, NULL, 8);
        CHECKS.due("the constraint 7", store.firstViolation(), -17);
        store.insert(1, 0, 0, NULL);
        CHECKS.due("the lower of two", store.firstViolation(), -12);
        CHECKS.due("commit()", store.commit(), -12);
        store.insert(2, 0, NULL, NULL);
        CHECKS.due("the constraint 7 again", store.firstViolation(), -17);
        store.insert(0, 8, NULL, NULL);
        CHECKS.due("none again", store.firstViolation(), 0);
        CHECKS.due("changes()", store.changes(), 4);
        CHECKS.due("an immediate constraint", violationOfAnImmediateConstraint(), -10);
    }

    private static int violationOfAnImmediateConstraint() {
        ForeignKeyStore store = new ForeignKeyStore();
        store.define(0, 0, 1, NO_ACTION, true);
        store.insert(0, 0, 5, NULL);
        store.savePoint();
        store.insert(1, 5, NULL, NULL);
        store.setMode(0, 0, false);
        store.rollBackTo(0);
        return store.firstViolation();
    }

    public static void main(String[] args) {
        newObject();
        define();
        defineWithWrongInputs();
        defineInAStateThatForbidsIt();
        drop();
        setMode();
        setModeOfAnImmediateViolatedConstraint();
        constraint();
        constraints();
        firstViolation();
        CHECKS.end("ConstraintTests");
    }
}
