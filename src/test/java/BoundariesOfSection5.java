/** Of "Terms": 5. TEXTS. */
final class BoundariesOfSection5 extends Boundaries {

    private static void valid(Checks checks, String... texts) {
        for (String text : texts) {
            checks.due("errorPosition() of \"" + text + "\"", withText(text).errorPosition(), NONE);
        }
    }

    private static void error(Checks checks, String text, int position) {
        checks.due("errorPosition() of \"" + text + "\"", withText(text).errorPosition(), position);
    }

    @Sentence("The text buffer holds at most 80 characters and is empty at first.")
    static void section5_anEmptyBufferAtFirst(Checks checks) {
        checks.due("textLength()", empty().textLength(), 0);
        checks.due("clearText()", empty().clearText(), 0);
        checks.due("errorPosition()", empty().errorPosition(), 0);
        checks.due("runText()", Checks.answerOf(() -> empty().runText()), STATE);
    }

    @Sentence("The text buffer holds at most 80 characters and is empty at first.")
    static void section5_aFullBuffer(Checks checks) {
        ForeignKeyStore store = withText("c;".repeat(39) + "r");
        checks.due("the 80th character", store.appendText(';'), 80);
        checks.due("the 81st character", Checks.answerOf(() -> store.appendText('c')), STATE);
        checks.due("textLength()", store.textLength(), 80);
        checks.due("errorPosition()", store.errorPosition(), 80);
        checks.due("clearText()", store.clearText(), 80);
        checks.due("the first character again", store.appendText('c'), 1);
        checks.due("errorPosition() then", store.errorPosition(), NONE);
    }

    private static final String COMMANDS =
            "A valid text consists of one or more commands, with one semicolon between two commands.";

    @Sentence(COMMANDS)
    static void section5_oneCommandOrMore(Checks checks) {
        error(checks, "", 0);
        valid(checks, "c", "c;c", "r;s;c", "c;".repeat(39) + "c", "b3;".repeat(26) + "b0");
        valid(checks, "d0,0;u1,2,0,n;i3,19,19,19;b2;s;r;c");
    }

    @Sentence(COMMANDS)
    static void section5_oneSemicolonBetweenCommands(Checks checks) {
        error(checks, ";", 0);
        error(checks, ";c", 0);
        error(checks, "cc", 1);
        error(checks, "c,c", 1);
        error(checks, "c c", 1);
        error(checks, "c;;c", 2);
        error(checks, "c; c", 2);
        error(checks, "c ;c", 1);
        error(checks, "c;", 2);
        error(checks, "c;c;", 4);
        error(checks, "d0,0d1,1", 4);
        error(checks, "d0,10d1,1", 5);
    }

    @Sentence("where t stands for a digit from 0 to 3 (a table)")
    static void section5_tables0To3(Checks checks) {
        valid(checks, "d0,0", "d3,0", "i0,0,n,n", "i3,0,n,n", "u0,0,0,n", "u3,0,0,n");
        for (String letter : new String[] {"d", "i", "u"}) {
            for (String sign : new String[] {"4", "9", "n", "-", "/", ":", ",", ";", " "}) {
                error(checks, letter + sign + ",0", 1);
            }
            error(checks, letter + "00,0", 2);
            error(checks, letter + "10,0", 2);
        }
    }

    @Sentence("c for the digit 0 or 1 (a column)")
    static void section5_columns0And1(Checks checks) {
        valid(checks, "u0,0,0,n", "u0,0,1,n");
        for (String sign : new String[] {"2", "9", "n", "-", "/", ",", ";", " "}) {
            error(checks, "u0,0," + sign + ",n", 5);
        }
        error(checks, "u0,0,00,n", 6);
        error(checks, "u0,0,10,n", 6);
    }

    @Sentence("<k> for a key, that is a number from 0 to 19 without leading zeros (0 is written as \"0\")")
    static void section5_keys0To19(Checks checks) {
        for (int key = 0; key < 20; key++) {
            valid(checks, "d0," + key, "i3," + key + ",n,n", "u2," + key + ",1,n");
        }
        for (int key = 20; key < 100; key++) {
            error(checks, "d0," + key, 4);
            error(checks, "i0," + key + ",n,n", 4);
            error(checks, "u0," + key + ",0,n", 4);
        }
        error(checks, "d0,100", 5);
        error(checks, "d0,190", 5);
        error(checks, "d0,199", 5);
    }

    @Sentence("<k> for a key, that is a number from 0 to 19 without leading zeros (0 is written as \"0\")")
    static void section5_keysWithoutLeadingZeros(Checks checks) {
        for (int digit = 0; digit < 10; digit++) {
            error(checks, "d0,0" + digit, 4);
            error(checks, "i0,0,0" + digit + ",n", 6);
            error(checks, "i0,0,n,0" + digit, 8);
            error(checks, "u0,0,0,0" + digit, 8);
        }
        for (String sign : new String[] {"n", "-", "+", "/", ":", ",", ";", " "}) {
            error(checks, "d0," + sign + "1", 3);
            error(checks, "d0,1" + sign + "1", sign.equals(";") ? 5 : 4);
        }
    }

    @Sentence("<v> for a key or the letter \"n\", which stands for NULL:")
    static void section5_valuesFromNTo19(Checks checks) {
        for (int value = 0; value < 20; value++) {
            valid(checks, "i0,0," + value + ",n", "i0,0,n," + value, "u0,0,0," + value);
        }
        for (int value = 20; value < 100; value += 9) {
            error(checks, "i0,0," + value + ",n", 6);
            error(checks, "i0,0,n," + value, 8);
            error(checks, "u0,0,0," + value, 8);
        }
        for (String sign : new String[] {"N", "m", "o", "-1", "-", ",", ";", " "}) {
            error(checks, "i0,0," + sign + ",n", 5);
            error(checks, "i0,0,n," + sign, 7);
            error(checks, "u0,0,0," + sign, 7);
        }
        error(checks, "i0,0,nn,n", 6);
        error(checks, "i0,0,n,n0", 8);
        error(checks, "u0,0,0,0n", 8);
        error(checks, "u0,0,0,1n", 8);
    }

    @Sentence("<v> for a key or the letter \"n\", which stands for NULL:")
    static void section5_nStandsForNull(Checks checks) {
        ForeignKeyStore store = withText("i0,0,n,0;i0,1,19,n;i0,2,7,8;u0,2,0,n");
        checks.due("runText()", store.runText(), 4);
        checks.due("the row 0", row(store, 0, 0), "-1 0");
        checks.due("the row 1", row(store, 0, 1), "19 -1");
        checks.due("the row 2", row(store, 0, 2), "-1 8");
    }

    @Sentence("\"it,<k>,<v>,<v>\": insert a row with the values of the columns 0 and 1;")
    static void section5_insert(Checks checks) {
        ForeignKeyStore store = withText("i3,19,10,9;i0,0,0,19");
        checks.due("runText()", store.runText(), 2);
        checks.due("the key 19 of the table 3", row(store, 3, 19), "10 9");
        checks.due("the key 0 of the table 0", row(store, 0, 0), "0 19");
        error(checks, "i0,0,0", 6);
        error(checks, "i0,0,0,", 7);
        error(checks, "i0,0,0;c", 6);
        error(checks, "i0,0,0,0,0", 8);
        error(checks, "i0;0,0,0", 2);
        error(checks, "i,0,0,0,0", 1);
    }

    @Sentence("\"ut,<k>,c,<v>\": update;")
    static void section5_update(Checks checks) {
        ForeignKeyStore store = withText("u3,19,1,19;u3,19,0,0");
        store.insert(3, 19, 5, 5);
        checks.due("runText()", store.runText(), 2);
        checks.due("the key 19 of the table 3", row(store, 3, 19), "0 19");
        error(checks, "u0,0,0", 6);
        error(checks, "u0,0,0,", 7);
        error(checks, "u0,0,0;c", 6);
        error(checks, "u0,0,0,0,0", 8);
    }

    @Sentence("\"dt,<k>\": delete a row;")
    static void section5_delete(Checks checks) {
        ForeignKeyStore store = withText("d3,19;d0,0");
        store.insert(3, 19, 5, 5);
        store.insert(0, 0, 5, 5);
        store.insert(3, 1, 5, 5);
        checks.due("runText()", store.runText(), 2);
        checks.due("rows", store.rows(0) * 10 + store.rows(3), 1);
        error(checks, "d0", 2);
        error(checks, "d0,", 3);
        error(checks, "d0;c", 2);
        error(checks, "d0,0,0", 4);
    }

    @Sentence("\"c\": commit;")
    static void section5_commit(Checks checks) {
        ForeignKeyStore store = withText("i0,0,n,n;c");
        checks.due("runText()", store.runText(), 2);
        checks.due("changes()", store.changes(), 0);
        checks.due("rows(0)", store.rows(0), 1);
        error(checks, "C", 0);
        error(checks, "c0", 1);
    }

    @Sentence("\"r\": roll back;")
    static void section5_rollBack(Checks checks) {
        ForeignKeyStore store = withText("i0,0,n,n;r");
        checks.due("runText()", store.runText(), 2);
        checks.due("changes()", store.changes(), 0);
        checks.due("rows(0)", store.rows(0), 0);
        error(checks, "R", 0);
        error(checks, "r0", 1);
    }

    @Sentence("\"s\": make a savepoint;")
    static void section5_savePoint(Checks checks) {
        ForeignKeyStore store = withText("s;s;s;s");
        checks.due("runText()", store.runText(), 4);
        checks.due("savePoints()", store.savePoints(), 4);
        error(checks, "S", 0);
        error(checks, "s0", 1);
    }

    @Sentence("\"bp\": roll back to the savepoint p, a digit from 0 to 3.")
    static void section5_rollBackToASavepoint(Checks checks) {
        for (int point = 0; point < 4; point++) {
            ForeignKeyStore store = withText("b" + point);
            for (int made = 0; made < 4; made++) {
                store.savePoint();
                store.insert(0, made, NULL, NULL);
            }
            checks.due("runText() to " + point, store.runText(), 1);
            checks.due("changes()", store.changes(), point);
            checks.due("savePoints()", store.savePoints(), point + 1);
        }
        error(checks, "b", 1);
        error(checks, "b;c", 1);
        error(checks, "b4", 1);
        error(checks, "b9", 1);
        error(checks, "bn", 1);
        error(checks, "b/", 1);
        error(checks, "b00", 2);
        error(checks, "b3,", 2);
        error(checks, "B0", 0);
    }

    private static final String ERROR = "The error position of a text is the smallest index i such that no valid "
            + "text of any length begins with the characters 0 to i of the text.";

    @Sentence(ERROR)
    static void section5_everyCharacterAtEveryPlace(Checks checks) {
        String[] texts = {"", "c;r;s;b3;", "i3,19,19,19;", "i0,0,n,n;", "u2,10,1,1;", "u1,2,0,n;", "d1,19;", "d0,1"};
        for (String text : texts) {
            for (int place = 0; place <= text.length(); place++) {
                for (char sign = 32; sign < 127; sign++) {
                    String tried = text.substring(0, place) + sign + text.substring(Math.min(place + 1, text.length()));
                    Model model = new Model();
                    for (char character : tried.toCharArray()) {
                        model.appendText(character);
                    }
                    error(checks, tried, model.errorPosition());
                }
            }
        }
    }

    @Sentence(ERROR)
    static void section5_theFirstOfTwoErrors(Checks checks) {
        error(checks, "xx", 0);
        error(checks, "d4,20", 1);
        error(checks, "d0,20;x", 4);
        error(checks, "c;d0,00;;", 6);
        error(checks, "c;c;x;c", 4);
    }

    @Sentence(ERROR)
    static void section5_anErrorAtTheEndOfAFullText(Checks checks) {
        error(checks, "c;".repeat(39) + "c~", 79);
        error(checks, "c;".repeat(39) + "cc", 79);
        error(checks, "c;".repeat(39) + "~c", 78);
        error(checks, "c;".repeat(38) + "d0,x", 79);
        valid(checks, "c;".repeat(38) + "d0,0");
    }

    @Sentence(ERROR)
    static void section5_onlyALongerTextWouldBeValid(Checks checks) {
        // A valid text that begins so has more than 80 characters, which counts, too.
        error(checks, "c;".repeat(40), 80);
        error(checks, "c;".repeat(39) + "d0", 80);
        error(checks, "c;".repeat(39) + "i3", 80);
    }

    private static final String TOO_EARLY = "If there is no such index and the text is not valid (it ends too early, "
            + "or it is empty), the error position is the length of the text.";

    @Sentence(TOO_EARLY)
    static void section5_textsThatEndTooEarly(Checks checks) {
        for (String text : new String[] {"i3,19,n,10", "u0,1,1,n", "d2,0", "b0"}) {
            for (int length = 0; length < text.length(); length++) {
                String begin = text.substring(0, length);
                // A key of two digits is one of its first digit, too.
                boolean whole = begin.equals("i3,19,n,1");
                error(checks, begin, whole ? NONE : length);
                error(checks, "c;" + begin, whole ? NONE : length + 2);
            }
            valid(checks, text);
        }
    }

    @Sentence(TOO_EARLY)
    static void section5_aTextThatWasValid(Checks checks) {
        ForeignKeyStore store = empty();
        String text = "c;d0,19;s";
        int[] due = {NONE, 2, 3, 4, 5, NONE, NONE, 8, NONE};
        checks.due("errorPosition() of no text", store.errorPosition(), 0);
        for (int i = 0; i < text.length(); i++) {
            store.appendText(text.charAt(i));
            checks.due("errorPosition() with " + (i + 1) + " characters", store.errorPosition(), due[i]);
        }
        store.clearText();
        checks.due("errorPosition() of a cleared text", store.errorPosition(), 0);
    }
}
