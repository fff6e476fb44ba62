/** Promise 12: appendText, 13: clearText, 14: errorPosition, 15: runText. */
final class BoundariesOfPromises12To15 extends Boundaries {

    // ---- Promise 12: appendText

    @Sentence("Appends a character to the text buffer.")
    static void promise12_behindTheOthers(Checks checks) {
        ForeignKeyStore store = withText("d0,1");
        checks.due("errorPosition()", store.errorPosition(), NONE);
        store.appendText('0');
        checks.due("a character that fits", store.errorPosition(), NONE);
        store.appendText('0');
        checks.due("a character that does not fit", store.errorPosition(), 5);
    }

    @Sentence("`character`: a character code, 32 to 126")
    static void promise12_characters32To126(Checks checks) {
        for (int begin = 32; begin < 127; begin += 48) {
            ForeignKeyStore store = empty();
            for (int character = begin; character < begin + 48 && character < 127; character++) {
                checks.due("appendText(" + character + ")", store.appendText(character), character - begin + 1);
            }
        }
        throwsBeyond(checks, ARGUMENT, 32, 126, "appendText", (s, c) -> s.appendText(c));
        throwsBeyond(checks, ARGUMENT, 0, 65536 + 'c', "appendText beyond char", (s, c) -> s.appendText(c));
        for (int character : new int[] {0, 9, 10, 31, 127, 128, 255, 256 + 'c', 65536 + 'c'}) {
            changesNothing(checks, "appendText(" + character + ")", ARGUMENT, Boundaries::busy,
                    s -> s.appendText(character));
        }
    }

    @Sentence("Returns the length of the text after the call.")
    static void promise12_lengths1To80(Checks checks) {
        ForeignKeyStore store = empty();
        for (int length = 1; length <= 80; length++) {
            checks.due("appendText()", store.appendText('c'), length);
        }
        store.clearText();
        checks.due("after clearText()", store.appendText('c'), 1);
    }

    @Sentence("Throws `IllegalArgumentException` if the character code is out of range")
    static void promise12_aCharacterOutOfRange(Checks checks) {
        changesNothing(checks, "31", ARGUMENT, Boundaries::busy, s -> s.appendText(31));
        changesNothing(checks, "127", ARGUMENT, Boundaries::busy, s -> s.appendText(127));
        ForeignKeyStore store = withText("d0,1");
        Checks.answerOf(() -> store.appendText(127));
        checks.due("the text is still valid", store.errorPosition(), NONE);
        checks.due("textLength()", store.textLength(), 4);
    }

    private static final String FULL = "c;".repeat(38) + "d0,1";

    @Sentence("Throws `IllegalStateException` if the text has 80 characters")
    static void promise12_aFullText(Checks checks) {
        changesNothing(checks, "the 81st", STATE, () -> withText(FULL), s -> s.appendText('9'));
        ForeignKeyStore store = withText(FULL.substring(0, 79));
        checks.due("the 80th", store.appendText('1'), 80);
        checks.due("errorPosition()", store.errorPosition(), NONE);
        checks.due("the 81st", Checks.answerOf(() -> store.appendText('x')), STATE);
        checks.due("errorPosition() after it", store.errorPosition(), NONE);
        checks.due("clearText()", store.clearText(), 80);
    }

    // ---- Promise 13: clearText

    @Sentence("Empties the text buffer.")
    static void promise13_nothingIsLeft(Checks checks) {
        ForeignKeyStore store = busy();
        store.clearText();
        checks.due("textLength()", store.textLength(), 0);
        checks.due("errorPosition()", store.errorPosition(), 0);
        checks.due("changes()", store.changes(), 3);
        store.appendText('c');
        checks.due("errorPosition() of \"c\"", store.errorPosition(), NONE);
        checks.due("runText() of \"c\"", store.runText(), 1);
        ForeignKeyStore cleared = withText("x".repeat(80));
        cleared.clearText();
        Checks.write(cleared, FULL);
        checks.due("a full text behind a full text", cleared.errorPosition(), NONE);
    }

    @Sentence("Returns the length of the text before the call.")
    static void promise13_lengths0To80(Checks checks) {
        checks.due("no text", empty().clearText(), 0);
        checks.due("one character", withText("x").clearText(), 1);
        ForeignKeyStore store = withText(FULL);
        checks.due("a full text", store.clearText(), 80);
        checks.due("a cleared text", store.clearText(), 0);
    }

    // ---- Promise 14: errorPosition

    @Sentence("Checks the text.")
    static void promise14_nothingIsRun(Checks checks) {
        ForeignKeyStore store = withText("i0,0,n,n;s");
        checks.due("errorPosition()", store.errorPosition(), NONE);
        checks.due("rows(0)", store.rows(0), 0);
        checks.due("savePoints()", store.savePoints(), 0);
        checks.due("errorPosition() again", store.errorPosition(), NONE);
        // What the rows are does not matter to a text.
        checks.due("a row that is not there", withText("d0,0").errorPosition(), NONE);
        checks.due("a savepoint that is not there", withText("b3").errorPosition(), NONE);
    }

    @Sentence("Returns NONE if the text is valid, otherwise its error position.")
    static void promise14_positionsFrom0To80(Checks checks) {
        checks.due("no text", empty().errorPosition(), 0);
        checks.due("the first character", withText("x").errorPosition(), 0);
        checks.due("a valid text of one character", withText("c").errorPosition(), NONE);
        checks.due("the second character", withText("cx").errorPosition(), 1);
        checks.due("a valid text of 80 characters", withText(FULL).errorPosition(), NONE);
        checks.due("the 80th character", withText(FULL.substring(0, 79) + "n").errorPosition(), 79);
        checks.due("the end of 80 characters", withText("c;".repeat(40)).errorPosition(), 80);
    }

    // ---- Promise 15: runText

    private static void sameAs(Checks checks, String text, Call call) {
        ForeignKeyStore byText = quiet();
        ForeignKeyStore byCall = quiet();
        for (ForeignKeyStore store : new ForeignKeyStore[] {byText, byCall}) {
            store.clearText();
            Checks.write(store, text);
            store.insert(3, 19, NULL, NULL);
            store.savePoint();
            store.update(0, 0, 0, 7);
        }
        checks.due("runText() of \"" + text + "\"", byText.runText(), 1);
        call.apply(byCall);
        checks.due("the state after \"" + text + "\"", traceOf(byText), traceOf(byCall));
    }

    @Sentence("Executes the commands of the text in their order, as insert(), update(), delete(), commit(), "
            + "rollBack(), savePoint() and rollBackTo() do.")
    static void promise15_asTheMethodsDo(Checks checks) {
        sameAs(checks, "i3,0,19,n", s -> s.insert(3, 0, 19, NULL));
        sameAs(checks, "i0,19,n,0", s -> s.insert(0, 19, NULL, 0));
        sameAs(checks, "i1,1,19,0", s -> s.insert(1, 1, 19, 0));
        sameAs(checks, "u3,19,1,19", s -> s.update(3, 19, 1, 19));
        sameAs(checks, "u0,0,0,n", s -> s.update(0, 0, 0, NULL));
        sameAs(checks, "u1,0,0,10", s -> s.update(1, 0, 0, 10));
        sameAs(checks, "d3,19", s -> s.delete(3, 19));
        sameAs(checks, "d0,1", s -> s.delete(0, 1));
        sameAs(checks, "d0,0", s -> s.delete(0, 0));
        sameAs(checks, "c", ForeignKeyStore::commit);
        sameAs(checks, "r", ForeignKeyStore::rollBack);
        sameAs(checks, "s", ForeignKeyStore::savePoint);
        sameAs(checks, "b0", s -> s.rollBackTo(0));
        sameAs(checks, "b1", s -> s.rollBackTo(1));
    }

    @Sentence("Executes the commands of the text in their order")
    static void promise15_inTheirOrder(Checks checks) {
        ForeignKeyStore store = withText("i0,0,1,1;u0,0,0,2;s;u0,0,0,3;u0,0,1,4;b0;u0,0,1,5;c;d0,0;s;r");
        checks.due("runText()", store.runText(), 11);
        checks.due("the row", row(store, 0, 0), "2 5");
        checks.due("changes()", store.changes(), 0);
        checks.due("savePoints()", store.savePoints(), 0);
    }

    /** The text's commands before the one that can't be are executed, and what is behind it is not. */
    private static void endsBefore(Checks checks, String text, int executed, int rows) {
        ForeignKeyStore store = empty();
        store.insert(0, 0, NULL, NULL);
        store.commit();
        Checks.write(store, text);
        checks.due("runText() of \"" + text + "\"", store.runText(), executed);
        checks.due("rows(1) after \"" + text + "\"", store.rows(1), rows);
    }

    @Sentence("Execution ends before the first command for which the method would throw an exception")
    static void promise15_endsBeforeAnException(Checks checks) {
        endsBefore(checks, "i0,0,n,n;i1,1,n,n", 0, 0);
        endsBefore(checks, "i1,0,n,n;i0,0,n,n;i1,1,n,n", 1, 1);
        endsBefore(checks, "i1,0,n,n;i1,1,n,n;i0,0,n,n", 2, 2);
        endsBefore(checks, "u0,1,0,n;i1,1,n,n", 0, 0);
        endsBefore(checks, "i1,0,n,n;u3,19,1,19;i1,1,n,n", 1, 1);
        endsBefore(checks, "d0,1;i1,1,n,n", 0, 0);
        endsBefore(checks, "d0,0;d0,0;i1,1,n,n", 1, 0);
        endsBefore(checks, "b0;i1,1,n,n", 0, 0);
        endsBefore(checks, "s;i1,0,n,n;b1;i1,1,n,n", 2, 1);
        endsBefore(checks, "s;s;s;i1,0,n,n;b3;i1,1,n,n", 4, 1);
        endsBefore(checks, "s;s;s;s;i1,0,n,n;s;i1,1,n,n", 5, 1);
        endsBefore(checks, "s;s;s;s;s", 4, 0);
        endsBefore(checks, "s;c;b0;i1,1,n,n", 2, 0);
        endsBefore(checks, "s;r;b0;i1,1,n,n", 2, 0);
        endsBefore(checks, "s;s;b0;b1;i1,1,n,n", 3, 0);
    }

    private static ForeignKeyStore strict(String text) {
        ForeignKeyStore store = empty();
        store.define(0, 0, 0, RESTRICT, true);
        store.define(1, 0, 0, NO_ACTION, false);
        store.insert(0, 0, NULL, NULL);
        store.insert(0, 1, 0, NULL);
        store.insert(1, 0, 1, NULL);
        store.commit();
        Checks.write(store, text);
        return store;
    }

    @Sentence("Execution ends before the first command for which the method would throw an exception")
    static void promise15_anExceptionBeforeARefusal(Checks checks) {
        for (String text : new String[] {"i1,0,7,n;s", "u1,19,0,7;s", "d1,19;s", "b0;s"}) {
            ForeignKeyStore store = strict(text);
            checks.due("runText() of \"" + text + "\"", store.runText(), 0);
            checks.due("savePoints() after \"" + text + "\"", store.savePoints(), 0);
            checks.due("changes() after \"" + text + "\"", store.changes(), 0);
        }
    }

    private static void endsWith(Checks checks, String text, int executed) {
        ForeignKeyStore store = strict(text);
        int savepoints = text.startsWith("s;") ? 1 : 0;
        checks.due("runText() of \"" + text + "\"", store.runText(), executed);
        checks.due("savePoints() after \"" + text + "\"", store.savePoints(), savepoints);
    }

    @Sentence("and it ends with the first command that is refused; this command counts as executed")
    static void promise15_endsWithARefusal(Checks checks) {
        endsWith(checks, "i1,5,7,n", 1);
        endsWith(checks, "i1,5,7,n;s", 1);
        endsWith(checks, "s;i1,5,7,n;s", 2);
        endsWith(checks, "u1,0,0,7;s", 1);
        endsWith(checks, "s;u1,0,0,7;s", 2);
        endsWith(checks, "d0,0;s", 1);
        endsWith(checks, "s;d0,0;s", 2);
        endsWith(checks, "d0,1;s", 1);
        endsWith(checks, "s;d0,1;s", 2);
        endsWith(checks, "i0,5,7,n;c;s", 2);
        endsWith(checks, "s;i0,5,7,n;c;r", 3);
        endsWith(checks, "s;u1,0,0,0;u1,0,0,1;u1,0,0,n;i1,5,7,n;c", 5);
    }

    @Sentence("and it ends with the first command that is refused; this command counts as executed")
    static void promise15_refusedByEachConstraint(Checks checks) {
        for (int number = 0; number < 8; number++) {
            ForeignKeyStore store = empty();
            store.define(number / 2, number % 2, (number / 2 + 1) % 4, NO_ACTION, false);
            Checks.write(store, "i" + number / 2 + ",0,5,5;s");
            checks.due("runText(), refused by " + number, store.runText(), 1);
            checks.due("savePoints()", store.savePoints(), 0);
        }
    }

    @Sentence("The text stays in the buffer.")
    static void promise15_theTextStays(Checks checks) {
        ForeignKeyStore store = withText("s;i0,0,n,n;d0,0");
        checks.due("runText()", store.runText(), 3);
        checks.due("textLength()", store.textLength(), 15);
        checks.due("runText() again", store.runText(), 3);
        checks.due("runText() a third time", store.runText(), 3);
        store.appendText(';');
        checks.due("a text that ends too early", Checks.answerOf(store::runText), STATE);
        store.appendText('b');
        store.appendText('0');
        checks.due("a longer text", store.runText(), 4);
        checks.due("textLength() then", store.textLength(), 18);
        checks.due("savePoints()", store.savePoints(), 1);
        ForeignKeyStore refused = strict("i1,5,7,n;s");
        refused.runText();
        checks.due("after a refusal", refused.textLength(), 10);
        ForeignKeyStore ended = withText("d0,0;s");
        ended.runText();
        checks.due("after an exception", ended.textLength(), 6);
        ForeignKeyStore wrong = withText("c;");
        checks.due("not valid", Checks.answerOf(wrong::runText), STATE);
        checks.due("after a text that is not valid", wrong.clearText(), 2);
    }

    @Sentence("Returns the number of commands that are executed.")
    static void promise15_from0To40Commands(Checks checks) {
        checks.due("no command", withText("d0,0").runText(), 0);
        checks.due("one command", withText("c").runText(), 1);
        checks.due("38 of 39 commands", withText("c;".repeat(38) + "d0,0").runText(), 38);
        checks.due("40 commands, a savepoint and back to it", withText("c;".repeat(38) + "s;b0").runText(), 40);
        checks.due("40 commands", withText("r;".repeat(39) + "c").runText(), 40);
        ForeignKeyStore longest = withText("i3,10,10,10;i3,11,10,10;i3,12,10,10;i3,13,10,10;i3,14,10,10;i3,15,10,10;c");
        checks.due("the longest insertions", longest.runText(), 7);
        checks.due("rows(3)", longest.rows(3), 6);
    }

    @Sentence("Throws `IllegalStateException` if the text is not valid")
    static void promise15_aTextThatIsNotValid(Checks checks) {
        String[] texts = {"", "x", "c;", "i0,0,n,n;", "i0,0,n,n;x", "i0,0,n,n;d0,20", "i0,0,n,n;c;b4",
            "i0,0,n,n c", "i0,0,n", "c;".repeat(40), "i0,0,n,n;" + "c;".repeat(35) + "x"};
        for (String text : texts) {
            changesNothing(checks, "runText() of \"" + text + "\"", STATE, () -> withText(text),
                    ForeignKeyStore::runText);
        }
    }
}
