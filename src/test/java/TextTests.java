/** Promises 12 to 15 and 27: the text buffer, its check and its execution. */
public final class TextTests {
    private static final Checks CHECKS = new Checks();
    private static final int NO_ACTION = ForeignKeyStore.NO_ACTION;
    private static final int CASCADE = ForeignKeyStore.CASCADE;
    private static final int NULL = ForeignKeyStore.NULL;
    private static final int NONE = ForeignKeyStore.NONE;

    private static ForeignKeyStore storeWith(String text) {
        ForeignKeyStore store = new ForeignKeyStore();
        Checks.write(store, text);
        return store;
    }

    private static void appendText() {
        CHECKS.about("promise 12");
        ForeignKeyStore store = new ForeignKeyStore();
        CHECKS.due("the lowest", store.appendText(32), 1);
        CHECKS.due("the highest", store.appendText(126), 2);
        CHECKS.illegalArgument("31", () -> store.appendText(31));
        CHECKS.illegalArgument("127", () -> store.appendText(127));
        CHECKS.illegalArgument("-1", () -> store.appendText(-1));
        CHECKS.illegalArgument("a character in its low bits", () -> store.appendText(65536 + 'c'));
        CHECKS.due("textLength()", store.textLength(), 2);
        for (int length = 3; length <= 80; length++) {
            CHECKS.due("appendText", store.appendText('c'), length);
        }
        CHECKS.illegalState("the 81st", () -> store.appendText('c'));
        CHECKS.illegalArgument("the 81st, 127", () -> store.appendText(127));
        CHECKS.due("textLength() when full", store.textLength(), 80);
        store.clearText();
        CHECKS.due("after clearText()", store.appendText('c'), 1);
    }

    private static void clearText() {
        CHECKS.about("promise 13");
        ForeignKeyStore store = storeWith("i0,1");
        CHECKS.due("clearText()", store.clearText(), 4);
        CHECKS.due("textLength()", store.textLength(), 0);
        CHECKS.due("clearText() again", store.clearText(), 0);
        CHECKS.due("errorPosition()", store.errorPosition(), 0);
        store.appendText('c');
        CHECKS.due("nothing is left", store.errorPosition(), NONE);
    }

    private static void textLength() {
        CHECKS.about("promise 27");
        ForeignKeyStore store = storeWith("s;r");
        CHECKS.due("textLength()", store.textLength(), 3);
        store.runText();
        CHECKS.due("after runText()", store.textLength(), 3);
        store.errorPosition();
        CHECKS.due("after errorPosition()", store.textLength(), 3);
    }

    private static void position(String text, int due) {
        CHECKS.due("errorPosition() of \"" + text + "\"", storeWith(text).errorPosition(), due);
    }

    private static void validTexts() {
        CHECKS.about("promise 14, valid texts");
        String[] valid = {
            "c", "r", "s", "b0", "b3", "d0,0", "d3,19", "d1,1", "d1,10", "u0,0,0,n", "u3,19,1,19",
            "u2,9,0,0", "i0,0,n,n", "i3,19,19,19", "i1,1,1,1", "i2,10,n,0", "i2,10,0,n", "c;c",
            "r;s;b1;c", "d0,1;c", "i0,1,n,1;s", "d0,0;d0,1;d0,2;d0,3;d0,4;d0,5;d0,6;d0,7",
        };
        for (String text : valid) {
            position(text, NONE);
        }
        position("c;".repeat(39) + "b0", NONE);
    }

    private static void textsThatEndTooEarly() {
        CHECKS.about("promise 14, texts that end too early");
        String[] early = {
            "", "c;", "i", "i0", "i0,", "i0,1", "i0,19", "i0,1,", "i0,1,n", "i0,1,n,", "u", "u1",
            "u1,", "u1,2", "u1,2,", "u1,2,0", "u1,2,0,", "d", "d0", "d0,", "b", "c;b", "s;d2,11;",
        };
        for (String text : early) {
            position(text, text.length());
        }
        position("c;".repeat(40), 80);
    }

    private static void textsWithErrors() {
        CHECKS.about("promise 14, errors");
        position(";", 0);
        position("x", 0);
        position("C", 0);
        position("n", 0);
        position("0", 0);
        position(" c", 0);
        position("t0,0", 0);
        position("cc", 1);
        position("c ", 1);
        position("c;;c", 2);
        position("c; c", 2);
        position("c,c", 1);
        position("b4", 1);
        position("bn", 1);
        position("b00", 2);
        position("r0", 1);
        position("s1", 1);
        position("i4,0,n,n", 1);
        position("i,0", 1);
        position("i0;", 2);
        position("i00", 2);
        position("i0,n", 3);
        position("i0,,", 3);
        position("i0,00", 4);
        position("i0,20,n,n", 4);
        position("i0,90", 4);
        position("i0,1n", 4);
        position("i0,100", 5);
        position("i0,199", 5);
        position("i0,19;", 5);
        position("i0,0,-1", 5);
        position("i0,0,nn", 6);
        position("i0,0,n1", 6);
        position("i0,0,2,30", 8);
        position("i0,0,n;", 6);
        position("i0,0,n,n,", 8);
        position("i0,0,n,nc", 8);
        position("i0,0,n,1n", 8);
        position("u0,0,2", 5);
        position("u0,0,n", 5);
        position("u0,0,00", 6);
        position("u0,0,10", 6);
        position("u0,0,1;", 6);
        position("u0,0,1,x", 7);
        position("u0,0,1,20", 8);
        position("d5", 1);
        position("d0,x", 3);
        position("d0,n", 3);
        position("d0,01", 4);
        position("d0,1,", 4);
        position("d0,19,", 5);
        position("d0,1;e", 5);
        position("d0,1x;c", 4);
        position("c;".repeat(39) + "cc", 79);
        position("c;".repeat(39) + "c~", 79);
    }

    private static void runTextStatements() {
        CHECKS.about("promise 15, statements");
        ForeignKeyStore store = storeWith("i3,0,19,n;i0,10,n,0;u3,0,1,7;d0,10;i2,1,1,1");
        CHECKS.due("runText()", store.runText(), 5);
        CHECKS.due("value(3, 0, 0)", store.value(3, 0, 0), 19);
        CHECKS.due("value(3, 0, 1)", store.value(3, 0, 1), 7);
        CHECKS.due("exists(0, 10)", store.exists(0, 10), false);
        CHECKS.due("value(2, 1, 0)", store.value(2, 1, 0), 1);
        CHECKS.due("changes()", store.changes(), 5);
        CHECKS.due("errorPosition()", store.errorPosition(), NONE);
        CHECKS.due("again: a row with this key", store.runText(), 0);
        CHECKS.due("changes() after it", store.changes(), 5);
    }

    private static void runTextTransactions() {
        CHECKS.about("promise 15, transactions");
        ForeignKeyStore store = storeWith("i0,0,n,n;c;i0,1,n,n;r;i0,2,n,n;s;i0,3,n,n;s;b0");
        CHECKS.due("runText()", store.runText(), 9);
        CHECKS.due("rows(0)", store.rows(0), 2);
        CHECKS.due("exists(0, 1)", store.exists(0, 1), false);
        CHECKS.due("exists(0, 3)", store.exists(0, 3), false);
        CHECKS.due("changes()", store.changes(), 1);
        CHECKS.due("savePoints()", store.savePoints(), 1);
        ForeignKeyStore longest = storeWith("c;".repeat(39) + "b0");
        longest.savePoint();
        CHECKS.due("no savepoint after a commit", longest.runText(), 39);
        ForeignKeyStore whole = storeWith("s;b0;" + "r;".repeat(37) + "c");
        CHECKS.due("forty commands", whole.runText(), 40);
    }

    private static void runTextEnds() {
        CHECKS.about("promise 15, exceptions of the commands");
        CHECKS.due("a row with this key", storeWith("i0,0,n,n;i0,0,n,n;c").runText(), 1);
        CHECKS.due("update without a row", storeWith("c;u0,0,0,n;c").runText(), 1);
        CHECKS.due("delete without a row", storeWith("d0,0;c").runText(), 0);
        CHECKS.due("a fifth savepoint", storeWith("s;s;s;s;s;c").runText(), 4);
        CHECKS.due("no savepoint", storeWith("s;b1;c").runText(), 1);
        ForeignKeyStore store = storeWith("i0,0,n,n;d1,0;i0,1,n,n");
        CHECKS.due("what came before stays", store.runText(), 1);
        CHECKS.due("rows(0)", store.rows(0), 1);
        CHECKS.due("textLength()", store.textLength(), 22);
    }

    private static void runTextRefused() {
        CHECKS.about("promise 15, refusals");
        ForeignKeyStore lowest = new ForeignKeyStore();
        lowest.define(0, 0, 1, NO_ACTION, false);
        Checks.write(lowest, "i0,0,0,n;s");
        CHECKS.due("by the constraint 0", lowest.runText(), 1);
        CHECKS.due("what came behind it", lowest.savePoints(), 0);
        ForeignKeyStore store = new ForeignKeyStore();
        store.define(1, 0, 0, NO_ACTION, false);
        store.define(1, 1, 0, CASCADE, true);
        Checks.write(store, "i0,0,n,n;i1,0,1,n;c");
        CHECKS.due("insert", store.runText(), 2);
        CHECKS.due("changes()", store.changes(), 1);
        store.clearText();
        Checks.write(store, "i1,0,0,n;u1,0,0,1;c");
        CHECKS.due("update", store.runText(), 2);
        store.clearText();
        Checks.write(store, "s;d0,0;c");
        CHECKS.due("delete", store.runText(), 2);
        store.clearText();
        Checks.write(store, "u1,0,1,5;c;r");
        CHECKS.due("commit", store.runText(), 2);
        CHECKS.due("changes() at last", store.changes(), 3);
        CHECKS.due("savePoints()", store.savePoints(), 1);
    }

    private static void runTextNotValid() {
        CHECKS.about("promise 15, texts that are not valid");
        CHECKS.illegalState("empty", () -> new ForeignKeyStore().runText());
        ForeignKeyStore store = storeWith("i0,0,n,n;c;");
        String before = Checks.stateOf(store);
        CHECKS.illegalState("ends too early", store::runText);
        CHECKS.due("the state after it", Checks.stateOf(store), before);
        store.appendText('x');
        CHECKS.illegalState("an error", store::runText);
        CHECKS.due("rows(0)", store.rows(0), 0);
        CHECKS.due("value(0, 0, 0)", store.value(0, 0, 0), NONE);
        CHECKS.due("NULL in a text", valueOfN(), NULL);
    }

    private static int valueOfN() {
        ForeignKeyStore store = storeWith("i0,0,5,6;u0,0,1,n");
        store.runText();
        return store.value(0, 0, 1);
    }

    public static void main(String[] args) {
        appendText();
        clearText();
        textLength();
        validTexts();
        textsThatEndTooEarly();
        textsWithErrors();
        runTextStatements();
        runTextTransactions();
        runTextEnds();
        runTextRefused();
        runTextNotValid();
        CHECKS.end("TextTests");
    }
}
