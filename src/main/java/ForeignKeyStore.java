import java.util.Arrays;

/**
 * A store of rows with foreign keys: immediate and deferred constraints, restricted deletions,
 * cascades, references that are set to null, transactions and savepoints.
 */
public final class ForeignKeyStore {
    public static final int NULL = -1;
    public static final int NONE = -2;
    public static final int RESTRICT = 0, NO_ACTION = 1, CASCADE = 2, SET_NULL = 3;

    private static final int TABLES = 4;
    private static final int COLUMNS = 2;
    private static final int KEYS = 20;
    private static final int ALL_ROWS = TABLES * KEYS;
    private static final int ALL_CONSTRAINTS = TABLES * COLUMNS;
    private static final int POINT_LIMIT = 4;
    private static final int TEXT_LIMIT = 80;
    private static final int LOWEST_CHARACTER = 32;
    private static final int HIGHEST_CHARACTER = 126;

    // The refusal because of the constraint n is FIRST_REFUSAL - n: no other answer is as low.
    private static final int FIRST_REFUSAL = -10;
    private static final int NO_REFUSAL = 0;

    // The answer of a step that its state forbids: the public method throws, a text ends before it.
    private static final int NOT_NOW = -3;

    private final Rows rowStore;
    private final Constraints constraintSet;
    private final References referenceCounter;
    private final Deletion deletion;
    private final SavePointList points;
    private final Text text;

    public ForeignKeyStore() {
        rowStore = new Rows();
        constraintSet = new Constraints(rowStore);
        referenceCounter = new References(rowStore, constraintSet);
        deletion = new Deletion(rowStore, constraintSet);
        points = new SavePointList();
        text = new Text();
    }

    // ---- constraints

    public int define(int table, int column, int parent, int action, boolean deferred)
            throws IndexOutOfBoundsException, IllegalArgumentException, IllegalStateException {
        if (!isTable(table) || !isColumn(column) || !isTable(parent)) {
            throw new IndexOutOfBoundsException("no such table, column or parent table");
        }
        if (action < RESTRICT || action > SET_NULL) {
            throw new IllegalArgumentException("no such action");
        }
        int number = constraintNumber(table, column);
        if (rowStore.changeCount() > 0) {
            throw new IllegalStateException("the transaction has changes");
        }
        if (constraintSet.isDefined(number)) {
            throw new IllegalStateException("the table and the column have a constraint");
        }
        if (constraintSet.countViolations(number, parent) > 0) {
            throw new IllegalStateException("the new constraint would be violated");
        }
        constraintSet.put(number, parent, action, deferred);
        return constraintSet.count();
    }

    public int drop(int table, int column) throws IndexOutOfBoundsException, IllegalStateException {
        if (!isTable(table) || !isColumn(column)) {
            throw new IndexOutOfBoundsException("no such table or column");
        }
        int number = constraintNumber(table, column);
        if (rowStore.changeCount() > 0) {
            throw new IllegalStateException("the transaction has changes");
        }
        if (!constraintSet.isDefined(number)) {
            throw new IllegalStateException("there is no such constraint");
        }
        constraintSet.remove(number);
        return constraintSet.count();
    }

    public int setMode(int table, int column, boolean deferred)
            throws IndexOutOfBoundsException, IllegalStateException {
        if (!isTable(table) || !isColumn(column)) {
            throw new IndexOutOfBoundsException("no such table or column");
        }
        int number = constraintNumber(table, column);
        if (!constraintSet.isDefined(number)) {
            throw new IllegalStateException("there is no such constraint");
        }
        if (constraintSet.isDeferred(number) == deferred) {
            return 0;
        }
        if (!deferred && constraintSet.countViolations(number, constraintSet.parentOf(number)) > 0) {
            return refusalBecauseOf(number);
        }
        constraintSet.putMode(number, deferred);
        return 1;
    }

    // ---- statements

    public int insert(int table, int key, int first, int second)
            throws IndexOutOfBoundsException, IllegalArgumentException, IllegalStateException {
        if (!isTable(table) || !isKey(key)) {
            throw new IndexOutOfBoundsException("no such table or key");
        }
        if (!isValue(first) || !isValue(second)) {
            throw new IllegalArgumentException("a value is out of range");
        }
        int answer = insertRow(rowNumber(table, key), first, second);
        if (answer == NOT_NOW) {
            throw new IllegalStateException("the table has a row with this key");
        }
        return answer;
    }

    public int update(int table, int key, int column, int value)
            throws IndexOutOfBoundsException, IllegalArgumentException, IllegalStateException {
        if (!isTable(table) || !isKey(key) || !isColumn(column)) {
            throw new IndexOutOfBoundsException("no such table, key or column");
        }
        if (!isValue(value)) {
            throw new IllegalArgumentException("the value is out of range");
        }
        int answer = updateRow(rowNumber(table, key), column, value);
        if (answer == NOT_NOW) {
            throw new IllegalStateException("the table has no row with this key");
        }
        return answer;
    }

    public int delete(int table, int key) throws IndexOutOfBoundsException, IllegalStateException {
        if (!isTable(table) || !isKey(key)) {
            throw new IndexOutOfBoundsException("no such table or key");
        }
        int answer = deleteRow(rowNumber(table, key));
        if (answer == NOT_NOW) {
            throw new IllegalStateException("the table has no row with this key");
        }
        return answer;
    }

    // ---- transactions

    public int commit() {
        return commitAll();
    }

    public int rollBack() {
        return undoAll();
    }

    public int savePoint() throws IllegalStateException {
        int answer = makePoint();
        if (answer == NOT_NOW) {
            throw new IllegalStateException("there are four savepoints");
        }
        return answer;
    }

    public int rollBackTo(int point) throws IndexOutOfBoundsException {
        int answer = undoToPoint(point);
        if (answer == NOT_NOW) {
            throw new IndexOutOfBoundsException("no such savepoint");
        }
        return answer;
    }

    // ---- texts

    public int appendText(int character) throws IllegalArgumentException, IllegalStateException {
        if (character < LOWEST_CHARACTER || character > HIGHEST_CHARACTER) {
            throw new IllegalArgumentException("the character code is out of range");
        }
        if (text.length() >= TEXT_LIMIT) {
            throw new IllegalStateException("the text has 80 characters");
        }
        text.add((char) character);
        return text.length();
    }

    public int clearText() {
        int lengthBefore = text.length();
        text.clear();
        return lengthBefore;
    }

    public int errorPosition() {
        return text.findError();
    }

    public int runText() throws IllegalStateException {
        if (text.findError() != NONE) {
            throw new IllegalStateException("the text is not valid");
        }
        text.rewind();
        int executed = 0;
        int answer = NO_REFUSAL;
        while (executed < TEXT_LIMIT && answer > FIRST_REFUSAL && text.readCommand()) {
            answer = runCommand();
            if (answer == NOT_NOW) {
                return executed;
            }
            executed++;
            text.readSign(';');
        }
        return executed;
    }

    // ---- queries about rows

    public boolean exists(int table, int key) throws IndexOutOfBoundsException {
        if (!isTable(table) || !isKey(key)) {
            throw new IndexOutOfBoundsException("no such table or key");
        }
        return rowStore.has(rowNumber(table, key));
    }

    public int value(int table, int key, int column) throws IndexOutOfBoundsException {
        if (!isTable(table) || !isKey(key) || !isColumn(column)) {
            throw new IndexOutOfBoundsException("no such table, key or column");
        }
        return rowStore.valueOf(rowNumber(table, key), column);
    }

    public int rows(int table) throws IndexOutOfBoundsException {
        if (!isTable(table)) {
            throw new IndexOutOfBoundsException("no such table");
        }
        return rowStore.countIn(table);
    }

    public int references(int table, int key) throws IndexOutOfBoundsException {
        if (!isTable(table) || !isKey(key)) {
            throw new IndexOutOfBoundsException("no such table or key");
        }
        return referenceCounter.countTo(rowNumber(table, key));
    }

    public int ancestors(int table, int key) throws IndexOutOfBoundsException {
        if (!isTable(table) || !isKey(key)) {
            throw new IndexOutOfBoundsException("no such table or key");
        }
        int row = rowNumber(table, key);
        return rowStore.has(row) ? referenceCounter.countAncestors(row) : NONE;
    }

    // ---- queries about constraints

    public int constraint(int table, int column, int part)
            throws IndexOutOfBoundsException, IllegalArgumentException {
        if (!isTable(table) || !isColumn(column)) {
            throw new IndexOutOfBoundsException("no such table or column");
        }
        if (part < 0 || part > 3) {
            throw new IllegalArgumentException("part is not 0 to 3");
        }
        int number = constraintNumber(table, column);
        return constraintSet.isDefined(number) ? partOf(number, part) : NONE;
    }

    public int constraints() {
        return constraintSet.count();
    }

    public int firstViolation() {
        return constraintSet.firstRefusal(true);
    }

    // ---- queries about what would happen, and about the transaction

    public int ifDeleted(int table, int key) throws IndexOutOfBoundsException {
        if (!isTable(table) || !isKey(key)) {
            throw new IndexOutOfBoundsException("no such table or key");
        }
        int changesBefore = rowStore.changeCount();
        int answer = deleteRow(rowNumber(table, key));
        rowStore.undoTo(changesBefore);
        return answer == NOT_NOW ? NONE : answer;
    }

    public int changes() {
        return rowStore.changeCount();
    }

    public int savePoints() {
        return points.count();
    }

    public int textLength() {
        return text.length();
    }

    // ---- what the calls of the face and the commands of a text have in common

    private int insertRow(int row, int first, int second) {
        if (rowStore.has(row)) {
            return NOT_NOW;
        }
        int changesBefore = rowStore.beginStatement();
        rowStore.write(row, first, second);
        return endStatement(changesBefore, 1);
    }

    private int updateRow(int row, int column, int value) {
        if (!rowStore.has(row)) {
            return NOT_NOW;
        }
        int changesBefore = rowStore.beginStatement();
        rowStore.writeColumn(row, column, value);
        return endStatement(changesBefore, 1);
    }

    private int deleteRow(int row) {
        if (!rowStore.has(row)) {
            return NOT_NOW;
        }
        int changesBefore = rowStore.beginStatement();
        int answer = deletion.run(row);
        return endStatement(changesBefore, answer);
    }

    private int endStatement(int changesBefore, int answer) {
        int refusal = answer <= FIRST_REFUSAL ? answer : constraintSet.firstRefusal(false);
        if (refusal == NO_REFUSAL) {
            return answer;
        }
        rowStore.undoTo(changesBefore);
        return refusal;
    }

    private int commitAll() {
        int refusal = constraintSet.firstRefusal(true);
        if (refusal != NO_REFUSAL) {
            return refusal;
        }
        int committed = rowStore.changeCount();
        rowStore.forgetChanges();
        points.cutTo(0);
        return committed;
    }

    private int undoAll() {
        points.cutTo(0);
        return rowStore.undoTo(0);
    }

    private int makePoint() {
        int point = points.count();
        if (point >= POINT_LIMIT) {
            return NOT_NOW;
        }
        points.add(rowStore.changeCount());
        return point;
    }

    private int undoToPoint(int point) {
        if (point < 0 || point >= points.count()) {
            return NOT_NOW;
        }
        points.cutTo(point + 1);
        return rowStore.undoTo(points.changesAt(point));
    }

    private int runCommand() {
        int row = rowNumber(text.argument(0), text.argument(1));
        switch (text.letter()) {
            case 'i':
                return insertRow(row, text.argument(2), text.argument(3));
            case 'u':
                return updateRow(row, text.argument(2), text.argument(3));
            case 'd':
                return deleteRow(row);
            case 'c':
                return commitAll();
            case 'r':
                return undoAll();
            case 's':
                return makePoint();
            case 'b':
                return undoToPoint(text.argument(0));
            default:
                return NOT_NOW;
        }
    }

    private int partOf(int number, int part) {
        switch (part) {
            case 0:
                return constraintSet.parentOf(number);
            case 1:
                return constraintSet.actionOf(number);
            case 2:
                return constraintSet.isDeferred(number) ? 1 : 0;
            default:
                return constraintSet.countViolations(number, constraintSet.parentOf(number));
        }
    }

    // ---- ranges and numbers

    private static boolean isTable(int table) {
        return table >= 0 && table < TABLES;
    }

    private static boolean isColumn(int column) {
        return column >= 0 && column < COLUMNS;
    }

    private static boolean isKey(int key) {
        return key >= 0 && key < KEYS;
    }

    private static boolean isValue(int value) {
        return value == NULL || isKey(value);
    }

    private static int rowNumber(int table, int key) {
        return table * KEYS + key;
    }

    private static int tableOfRow(int row) {
        return row / KEYS;
    }

    private static int constraintNumber(int table, int column) {
        return table * COLUMNS + column;
    }

    private static int tableOfConstraint(int number) {
        return number / COLUMNS;
    }

    private static int columnOfConstraint(int number) {
        return number % COLUMNS;
    }

    private static int refusalBecauseOf(int number) {
        return FIRST_REFUSAL - number;
    }

    /** The rows of all tables, and the changes that the transaction has made to them. */
    private static final class Rows {
        // A deletion removes each row once at most, and sets each of its columns to NULL once.
        private static final int STATEMENT_ROOM = ALL_ROWS * (1 + COLUMNS);

        // A call makes at most 9 insertions (a text of 80 characters), and each of them is good for
        // 4 changes (inserted, two columns set to NULL, removed): 512 calls stay below 19,000.
        private static final int CHANGE_LIMIT = 32768;

        // A change is kept in one number: the row, and the values that it had, counted from NONE.
        private static final int VALUE_BITS = 5;
        private static final int VALUE_MASK = 31;

        // The values of the columns of each row; NONE in both of them where there is no row.
        private final int[] values = new int[ALL_ROWS * COLUMNS];
        private int[] before = new int[STATEMENT_ROOM];
        private int changeCount = 0;

        Rows() {
            for (int place = 0; place < values.length; place++) {
                values[place] = NONE;
            }
        }

        int changeCount() {
            return changeCount;
        }

        boolean has(int row) {
            return row >= 0 && row < ALL_ROWS && values[row * COLUMNS] != NONE;
        }

        int valueOf(int row, int column) {
            if (row < 0 || row >= ALL_ROWS || column < 0 || column >= COLUMNS) {
                return NONE;
            }
            return values[row * COLUMNS + column];
        }

        int countIn(int table) {
            int count = 0;
            for (int key = 0; key < KEYS; key++) {
                if (has(rowNumber(table, key))) {
                    count++;
                }
            }
            return count;
        }

        /** Makes room for the changes of any statement; answers the number of changes so far. */
        int beginStatement() {
            int room = before.length - changeCount;
            if (room < STATEMENT_ROOM && before.length < CHANGE_LIMIT) {
                before = Arrays.copyOf(before, 2 * before.length);
            }
            return changeCount;
        }

        /** Inserts or changes a row, or removes it if both values are NONE: one change. */
        void write(int row, int first, int second) {
            // Where a change can't be kept it isn't made; that happens only after the 512th call.
            if (row < 0 || row >= ALL_ROWS || changeCount < 0 || changeCount >= before.length) {
                return;
            }
            int place = row * COLUMNS;
            int firstBefore = values[place] - NONE;
            int secondBefore = values[place + 1] - NONE;
            before[changeCount] = (row << (2 * VALUE_BITS)) | (firstBefore << VALUE_BITS) | secondBefore;
            changeCount++;
            values[place] = first;
            values[place + 1] = second;
        }

        void writeColumn(int row, int column, int value) {
            int first = column == 0 ? value : valueOf(row, 0);
            int second = column == 1 ? value : valueOf(row, 1);
            write(row, first, second);
        }

        void erase(int row) {
            write(row, NONE, NONE);
        }

        /** Undoes the latest changes until there are as many as said; answers how many it undid. */
        int undoTo(int count) {
            int undone = 0;
            while (changeCount > count && changeCount > 0 && changeCount <= before.length) {
                changeCount--;
                restore(before[changeCount]);
                undone++;
            }
            return undone;
        }

        void forgetChanges() {
            changeCount = 0;
        }

        private void restore(int change) {
            int row = change >> (2 * VALUE_BITS);
            if (row >= 0 && row < ALL_ROWS) {
                values[row * COLUMNS] = ((change >> VALUE_BITS) & VALUE_MASK) + NONE;
                values[row * COLUMNS + 1] = (change & VALUE_MASK) + NONE;
            }
        }
    }

    /** The constraints by their numbers, and what they say of the rows as they stand. */
    private static final class Constraints {
        private final Rows rows;

        // NONE where there is no constraint.
        private final int[] parents = new int[ALL_CONSTRAINTS];
        private final int[] actions = new int[ALL_CONSTRAINTS];
        private final boolean[] modes = new boolean[ALL_CONSTRAINTS];

        Constraints(Rows rows) {
            this.rows = rows;
            for (int number = 0; number < ALL_CONSTRAINTS; number++) {
                parents[number] = NONE;
            }
        }

        boolean isDefined(int number) {
            return parentOf(number) != NONE;
        }

        int parentOf(int number) {
            return number >= 0 && number < ALL_CONSTRAINTS ? parents[number] : NONE;
        }

        int actionOf(int number) {
            return number >= 0 && number < ALL_CONSTRAINTS ? actions[number] : NO_ACTION;
        }

        boolean isDeferred(int number) {
            return number >= 0 && number < ALL_CONSTRAINTS && modes[number];
        }

        int count() {
            int count = 0;
            for (int number = 0; number < ALL_CONSTRAINTS; number++) {
                if (isDefined(number)) {
                    count++;
                }
            }
            return count;
        }

        void put(int number, int parent, int action, boolean deferred) {
            if (number >= 0 && number < ALL_CONSTRAINTS) {
                parents[number] = parent;
                actions[number] = action;
                modes[number] = deferred;
            }
        }

        void putMode(int number, boolean deferred) {
            if (number >= 0 && number < ALL_CONSTRAINTS) {
                modes[number] = deferred;
            }
        }

        void remove(int number) {
            put(number, NONE, NO_ACTION, false);
        }

        /** The row, existing or not, that a row of the constraint's table names; NONE if none. */
        int targetOf(int number, int row) {
            int parent = parentOf(number);
            int value = rows.valueOf(row, columnOfConstraint(number));
            return parent == NONE || value < 0 ? NONE : rowNumber(parent, value);
        }

        /** Counts the rows that violate the constraint, or would if this were its parent table. */
        int countViolations(int number, int parent) {
            if (parent == NONE) {
                return 0;
            }
            int count = 0;
            for (int key = 0; key < KEYS; key++) {
                int row = rowNumber(tableOfConstraint(number), key);
                int value = rows.valueOf(row, columnOfConstraint(number));
                if (value >= 0 && !rows.has(rowNumber(parent, value))) {
                    count++;
                }
            }
            return count;
        }

        int firstRefusal(boolean deferredToo) {
            for (int number = 0; number < ALL_CONSTRAINTS; number++) {
                boolean checked = deferredToo || !isDeferred(number);
                if (checked && countViolations(number, parentOf(number)) > 0) {
                    return refusalBecauseOf(number);
                }
            }
            return NO_REFUSAL;
        }
    }

    /** Rows in the order in which they came; a row comes in once at most until it is cleared. */
    private static final class RowQueue {
        private final int[] queue = new int[ALL_ROWS];
        private final boolean[] known = new boolean[ALL_ROWS];
        private int length = 0;

        void clear() {
            length = 0;
            for (int row = 0; row < ALL_ROWS; row++) {
                known[row] = false;
            }
        }

        void add(int row) {
            if (row >= 0 && row < ALL_ROWS && !known[row] && length < ALL_ROWS) {
                known[row] = true;
                queue[length] = row;
                length++;
            }
        }

        int length() {
            return length;
        }

        int rowAt(int place) {
            return place >= 0 && place < length && place < ALL_ROWS ? queue[place] : NONE;
        }
    }

    /** Counts along the references between rows. */
    private static final class References {
        private final Rows rows;
        private final Constraints constraints;
        private final RowQueue found = new RowQueue();

        References(Rows rows, Constraints constraints) {
            this.rows = rows;
            this.constraints = constraints;
        }

        int countTo(int target) {
            int count = 0;
            for (int number = 0; number < ALL_CONSTRAINTS; number++) {
                for (int key = 0; key < KEYS; key++) {
                    int row = rowNumber(tableOfConstraint(number), key);
                    if (constraints.targetOf(number, row) == target) {
                        count++;
                    }
                }
            }
            return count;
        }

        int countAncestors(int row) {
            found.clear();
            findTargets(row);
            for (int place = 0; place < found.length() && place < ALL_ROWS; place++) {
                findTargets(found.rowAt(place));
            }
            return found.length();
        }

        private void findTargets(int row) {
            for (int column = 0; column < COLUMNS; column++) {
                int number = constraintNumber(tableOfRow(row), column);
                int target = constraints.targetOf(number, row);
                if (rows.has(target)) {
                    found.add(target);
                }
            }
        }
    }

    /** The deletion of a row with all that follows from it, up to the check of the constraints. */
    private static final class Deletion {
        private final Rows rows;
        private final Constraints constraints;

        // A row that was taken out of the queue stays known to it. It can't be put there again:
        // it has been removed, so it refers to nothing.
        private final RowQueue waiting = new RowQueue();

        Deletion(Rows rows, Constraints constraints) {
            this.rows = rows;
            this.constraints = constraints;
        }

        /** Answers the number of removed rows, or a refusal; the caller undoes what was changed. */
        int run(int row) {
            waiting.clear();
            waiting.add(row);
            for (int place = 0; place < waiting.length() && place < ALL_ROWS; place++) {
                int removed = waiting.rowAt(place);
                rows.erase(removed);
                for (int number = 0; number < ALL_CONSTRAINTS; number++) {
                    if (!treatReferences(number, removed)) {
                        return refusalBecauseOf(number);
                    }
                }
            }
            return waiting.length();
        }

        /** False if the constraint refuses that the row is removed. */
        private boolean treatReferences(int number, int removed) {
            int action = constraints.actionOf(number);
            for (int key = 0; key < KEYS; key++) {
                int row = rowNumber(tableOfConstraint(number), key);
                if (constraints.targetOf(number, row) == removed) {
                    if (action == RESTRICT) {
                        return false;
                    }
                    if (action == CASCADE) {
                        waiting.add(row);
                    }
                    if (action == SET_NULL) {
                        rows.writeColumn(row, columnOfConstraint(number), NULL);
                    }
                }
            }
            return true;
        }
    }

    /** For each savepoint the number of changes that the transaction had when it was made. */
    private static final class SavePointList {
        private final int[] changeCounts = new int[POINT_LIMIT];
        private int count = 0;

        int count() {
            return count;
        }

        void add(int changeCount) {
            if (count < POINT_LIMIT) {
                changeCounts[count] = changeCount;
                count++;
            }
        }

        int changesAt(int point) {
            return point >= 0 && point < POINT_LIMIT ? changeCounts[point] : 0;
        }

        void cutTo(int newCount) {
            count = newCount;
        }
    }

    /** The text buffer, and a reader that goes through it command by command. */
    private static final class Text {
        private static final int NO_SIGN = -1;
        private static final int ARGUMENTS = 4;
        private static final String LETTERS = "iudcrsb";

        private final char[] signs = new char[TEXT_LIMIT];
        private int length = 0;

        // The next character to read; where a reading fails, it stays at the one that is wrong.
        private int position = 0;
        private int letter = NO_SIGN;
        private final int[] arguments = new int[ARGUMENTS];
        private int argumentCount = 0;

        int length() {
            return length;
        }

        void add(char sign) {
            if (length < TEXT_LIMIT) {
                signs[length] = sign;
                length++;
            }
        }

        void clear() {
            length = 0;
        }

        void rewind() {
            position = 0;
        }

        /** The error position of the whole text, NONE if it is valid. */
        int findError() {
            rewind();
            for (int commands = 0; commands < TEXT_LIMIT; commands++) {
                if (!readCommand()) {
                    return position;
                }
                if (position >= length) {
                    return NONE;
                }
                if (!readSign(';')) {
                    return position;
                }
            }
            return position;
        }

        /** Reads a command: its letter and its arguments are known after it. */
        boolean readCommand() {
            letter = signAt(position);
            argumentCount = 0;
            if (letter == NO_SIGN || LETTERS.indexOf((char) letter) < 0) {
                return false;
            }
            position++;
            String form = formOf(letter);
            for (int i = 0; i < form.length(); i++) {
                if (!readPart(form.charAt(i))) {
                    return false;
                }
            }
            return true;
        }

        boolean readSign(char sign) {
            if (signAt(position) != sign) {
                return false;
            }
            position++;
            return true;
        }

        int letter() {
            return letter;
        }

        int argument(int place) {
            return place >= 0 && place < argumentCount && place < ARGUMENTS ? arguments[place] : 0;
        }

        /** What follows a letter: t a table, k a key, c a column, v a value, p a savepoint. */
        private static String formOf(int letter) {
            switch (letter) {
                case 'i':
                    return "t,k,v,v";
                case 'u':
                    return "t,k,c,v";
                case 'd':
                    return "t,k";
                case 'b':
                    return "p";
                default:
                    return "";
            }
        }

        private boolean readPart(char part) {
            switch (part) {
                case 't':
                    return keep(readDigit(TABLES - 1));
                case 'k':
                    return keep(readKey());
                case 'c':
                    return keep(readDigit(COLUMNS - 1));
                case 'v':
                    return keep(readSign('n') ? NULL : readKey());
                case 'p':
                    return keep(readDigit(POINT_LIMIT - 1));
                default:
                    return readSign(part);
            }
        }

        private boolean keep(int argument) {
            if (argument == NONE || argumentCount >= ARGUMENTS) {
                return false;
            }
            arguments[argumentCount] = argument;
            argumentCount++;
            return true;
        }

        /** A key has a second digit only behind a 1: no other key from 0 to 19 has two. */
        private int readKey() {
            int digit = readDigit(9);
            if (digit != 1) {
                return digit;
            }
            int unit = readDigit(9);
            return unit == NONE ? 1 : 10 + unit;
        }

        private int readDigit(int highest) {
            int digit = signAt(position) - '0';
            if (digit < 0 || digit > highest) {
                return NONE;
            }
            position++;
            return digit;
        }

        private int signAt(int place) {
            return place >= 0 && place < length && place < TEXT_LIMIT ? signs[place] : NO_SIGN;
        }
    }
}
