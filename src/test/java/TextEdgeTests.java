/** The boundaries of promises 1 to 4, 25 and 26 and of the texts in section 5, a test for each sentence. */
public final class TextEdgeTests {
    private static final String CAPS = "caps 3 3 3 3 3;";
    private static final String[] OPTIONS = {"period", "goal", "turn", "reserve"};

    private TextEdgeTests() {
    }

    private static void fails(String text, int code, int position) {
        Play.of("caps 2 2 2 2 2; stack 1 ab;").load(text, code).due("errorPosition()", position);
    }

    private static void isRead(String text, int pieces) {
        Play.fresh().load(text, pieces).due("errorPosition()", -1);
    }

    /** None of the tokens may follow the text; nor may the text end there. */
    private static void notAllowed(String before, String... tokens) {
        fails(before, Play.SYNTAX, before.length());
        fails(before + "  ", Play.SYNTAX, before.length() + 2);
        for (String token : tokens) {
            fails(before + " " + token, Play.SYNTAX, before.length() + 1);
            fails(before + " " + token + " 1;", Play.SYNTAX, before.length() + 1);
        }
    }

    private static void newObject() {
        Play.edge("1: 5 empty cells with the cap 3 each", () -> Play.fresh().due("count(0)", 5)
                .stacks("3 ", "3 ", "3 ", "3 ", "3 ").due("cell(5, 0)", Play.INDEX)
                .due("count(6)", 0).due("count(7)", 5).due("count(9)", 15));
        Play.edge("1: period 0", () -> Play.fresh().due("count(3)", 0).due("setPeriod(4)", 0));
        Play.edge("1: goal 5", () -> Play.fresh().due("count(4)", 5).due("count(5)", 0));
        Play.edge("1: empty reserves", () -> Play.fresh().due("player(1, 1)", 0).due("player(2, 1)", 0)
                .due("reason(3000)", 4).due("setTurn(2)", 1).due("reason(3000)", 4));
        Play.edge("1: no prisoners", () -> Play.fresh().due("player(1, 2)", 0).due("player(2, 2)", 0));
        Play.edge("1: player 1's turn", () -> Play.fresh().due("count(1)", 1).due("setTurn(2)", 1));
        Play.edge("1: no move yet", () -> Play.fresh().due("count(2)", 0));
        Play.edge("1: an empty text buffer", () -> Play.fresh().due("load(1)", Play.ARGUMENT)
                .due("load(0)", Play.SYNTAX).due("append(0, 0, 0, 0, 0)", 20));
        Play.edge("1: empty slots", () -> Play.fresh().all(Play.STATE, "restore(0)", "restore(1)")
                .all(-1, "differing(0)", "differing(1)"));
        Play.edge("1: nothing to undo, no error, nothing written", () -> Play.fresh().due("undo()", Play.STATE)
                .due("errorPosition()", -1).due("writtenByte(0)", Play.INDEX));
        Play.edge("1: objects have nothing in common", TextEdgeTests::twoObjects);
    }

    private static void twoObjects() {
        Play first = Play.of("caps 1 2 3 4 5 6; period 7; goal 8; reserve 9 10; turn 2; stack 0 a;");
        first.due("save(0)", 1).due("writeStack(0)", 3).fill(CAPS).due("setTurn(1)", 2);
        Play.fresh().due("count(0)", 5).due("count(1)", 1).due("differing(0)", -1).due("writtenByte(0)", Play.INDEX)
                .due("undo()", Play.STATE).due("load(1)", Play.ARGUMENT);
        first.due("load(15)", 0);
    }

    private static void append() {
        // "caps", "  1 ", " 2  ", "3 4 ", "  5;" and "stac", "k 3 ", "abba", " ; s", "tack"
        String first = "append(" + 0x63617073 + ", " + 0x20203120 + ", " + 0x20322020 + ", " + 0x33203420 + ", "
                + 0x2020353b + ")";
        String second = "append(" + 0x73746163 + ", " + 0x6b203320 + ", " + 0x61626261 + ", " + 0x203b2073 + ", "
                + 0x7461636b + ")";
        Play.edge("2: the bytes of each argument in order, the most significant byte first", () -> Play.fresh()
                .due(first, 20).due(second, 40).due("load(34)", 4).stacks("1 ", "2 ", "3 ", "4 abba", "5 "));
        Play.edge("2: bytes from 128 to 255 are appended as they are", () -> {
            for (int place = 0; place < 4; place++) {
                int four = 0x20202020 & ~(255 << 8 * place) | 0x80 << 8 * place;
                Play.fresh().due(first, 20).due("append(" + four + ", -1, -1, -1, " + Play.LEAST + ")", 40)
                        .due("load(40)", Play.SYNTAX).due("errorPosition()", 23 - place);
            }
        });
        Play.edge("2: returns the new length, up to 300", TextEdgeTests::fullBuffer);
        Play.edge("2: IllegalStateException if the length would exceed 300", () -> {
            Play full = fullBuffer();
            full.due("append(0, 0, 0, 0, 0)", Play.STATE).due("append(-1, -1, -1, -1, -1)", Play.STATE);
            full.due("load(300)", 0).due("count(0)", 12).due("append(0, 0, 0, 0, 0)", 20);
        });
        Play.edge("2: 280 bytes have room for 20 more", () -> Play.fresh().fill(" ".repeat(280))
                .due("append(0, 0, 0, 0, 0)", 300).due("append(0, 0, 0, 0, 0)", Play.STATE));
    }

    /** A buffer with a game of 300 bytes. */
    private static Play fullBuffer() {
        Play play = Play.fresh();
        String text = " ".repeat(130) + "caps 1 2 3 4 5 6 7 8 1 2 3 4;";
        text += " ".repeat(300 - text.length());
        for (int from = 0; from < 300; from += 20) {
            StringBuilder call = new StringBuilder("append(");
            for (int word = from; word < from + 20; word += 4) {
                int four = 0;
                for (int at = word; at < word + 4; at++) {
                    four = four << 8 | text.charAt(at);
                }
                call.append(four).append(word < from + 16 ? ", " : ")");
            }
            play.due(call.toString(), from + 20);
        }
        return play;
    }

    private static void lengths() {
        Play.edge("3: length 0 of an empty buffer", () -> Play.fresh().due("load(0)", Play.SYNTAX)
                .due("errorPosition()", 0));
        Play.edge("3: length 0 of a buffer that is not empty", () -> Play.fresh().fill(CAPS).due("load(0)", Play.SYNTAX)
                .due("errorPosition()", 0).due("load(1)", Play.ARGUMENT));
        Play.edge("3: the length of the buffer", () -> Play.fresh().fill(CAPS).due("load(20)", 0));
        Play.edge("3: one more than the length of the buffer", () -> Play.fresh().fill(CAPS)
                .due("load(21)", Play.ARGUMENT).due("load(15)", 0));
        Play.edge("3: the length 300 and 301", () -> fullBuffer().due("load(301)", Play.ARGUMENT).due("load(300)", 0));
        Play.edge("3: lengths below 0 and at the ends of int", () -> Play.fresh().fill(CAPS)
                .all(Play.ARGUMENT, "load(-1)", "load(" + Play.LEAST + ")", "load(" + Play.MOST + ")").due("load(20)", 0));
        Play.edge("3: bytes behind the length are not read", () -> {
            Play.fresh().fill("caps 1 1 1 1 1;$$$$$").due("load(15)", 0);
            Play.fresh().fill("caps 1 1 1 1 12;    ").due("load(14)", Play.SYNTAX).due("errorPosition()", 14);
            Play.fresh().fill("caps 1 1 1 1 1;turnx").due("load(19)", Play.SYNTAX).due("errorPosition()", 19);
            Play.fresh().fill("caps1 1 1 1 1;stack0").due("load(19)", Play.SYNTAX).due("errorPosition()", 19);
        });
        Play.edge("3: the buffer is empty afterwards", () -> {
            Play.fresh().fill(CAPS).due("load(15)", 0).due("load(1)", Play.ARGUMENT).due("append(0, 0, 0, 0, 0)", 20);
            Play.fresh().fill(CAPS).due("load(14)", Play.SYNTAX).due("load(1)", Play.ARGUMENT)
                    .due("append(0, 0, 0, 0, 0)", 20);
            Play.fresh().fill("caps 9").due("load(6)", Play.VALUE).due("load(1)", Play.ARGUMENT);
        });
        Play.edge("3: what was in the buffer before is not read again", () -> Play.of("caps 4 4 4 4 4; stack 0 aaaa;")
                .fill("caps 2 2 2 2 2;").due("load(15)", 0).stacks("2 ").fill(" ").due("load(20)", Play.SYNTAX)
                .due("errorPosition()", 20));
    }

    private static void replacing() {
        Play.edge("3: returns the number of pieces on the ring, 0 to 96", () -> {
            isRead(CAPS, 0);
            isRead(CAPS + "stack 4 b;", 1);
            isRead(fullRing(), 96);
        });
        Play.edge("3: replaces the present game, with no prisoners and no move made", () -> {
            Play play = Play.of("caps 8 8 8 8 8 8; period 3; goal 1; reserve 4 5; turn 2; stack 0 b; stack 1 a;");
            play.due("carry(0, 0, 1)", 1).due("count(2)", 1).due("player(2, 2)", 1).due("count(5)", 2);
            play.load("caps 1 2 3 4 5; stack 3 ba;", 2).row("count(", 5, 1, 0, 0, 5, 0, 2, 4, 2, 15);
            play.row("player(1, ", 1, 0, 0, 1, 0, 1).row("player(2, ", 1, 0, 0, 0, 1, -1);
        });
        Play.edge("3: from twelve cells to five and back", () -> {
            Play play = Play.of(fullRing());
            play.due("cell(11, 1)", 8).load(CAPS, 0).due("cell(5, 1)", Play.INDEX).row("count(", 5, 1, 0, 0, 5, 0, 0);
            play.load("caps 1 1 1 1 1 1 1 1 1 1 1 1;", 0).due("cell(11, 1)", 0).due("cell(5, 0)", 1).due("count(6)", 0);
        });
        Play.edge("3: in case of an error the present game stays", () -> {
            String[] wrong = {"caps 1 1 1 1;", "caps 4 4 4 4 4 4; period 2; goal 2; reserve 3 3; turn 1; stack 0 b; stack",
                "caps 4 4 4 4 4 4; stack 0 b; stack 6 a;"};
            for (String text : wrong) {
                Play play = Play.of("caps 2 2 2 2 3; goal 1; reserve 1 2; turn 2; stack 1 ab; stack 2 a;");
                play.due("carry(1, 0, 1)", 1);
                String before = Everything.shown(play.ring);
                play.fill(text).due("load(" + text.length() + ")", text.contains("6 a") ? Play.VALUE : Play.SYNTAX);
                Checks.due("the game after \"" + text + "\"", Everything.shown(play.ring), before);
                play.due("undo()", 1);
            }
        });
        Play.edge("3: the slots stay", () -> Play.of("caps 2 2 2 2 2; stack 1 ab;").due("save(1)", 2).load(CAPS, 0)
                .due("differing(1)", 1).due("differing(0)", -1).load("caps", Play.SYNTAX).due("differing(1)", 1)
                .due("restore(1)", 2).stacks("2 ", "2 ab"));
        Play.edge("4: NONE if there was no call", () -> Play.fresh().due("errorPosition()", -1)
                .due("load(1)", Play.ARGUMENT).due("errorPosition()", -1));
        Play.edge("4: the error that the latest call found", () -> Play.fresh().load("caps 9", Play.VALUE)
                .due("errorPosition()", 5).load("cops", Play.SYNTAX).due("errorPosition()", 0)
                .due("load(1)", Play.ARGUMENT).due("errorPosition()", 0));
        Play.edge("4: NONE if the latest call found no error", () -> Play.fresh().load("caps 9", Play.VALUE)
                .load(CAPS, 0).due("errorPosition()", -1));
        Play.edge("4: an error at the length 300", () -> Play.fresh().load(" ".repeat(300), Play.SYNTAX)
                .due("errorPosition()", 300));
        Play.edge("4: an error in the byte 299", () -> {
            Play.fresh().load(CAPS + " ".repeat(284) + ";", Play.SYNTAX).due("errorPosition()", 299);
            Play.fresh().load(CAPS + " ".repeat(279) + "goal 0", Play.VALUE).due("errorPosition()", 299);
        });
    }

    /** Twelve cells with 8 pieces each. */
    private static String fullRing() {
        StringBuilder text = new StringBuilder("caps" + " 8".repeat(12) + ";");
        for (int cell = 0; cell < 12; cell++) {
            text.append("stack").append(cell).append(cell % 2 == 0 ? " aaaaaaaa;" : " abababab;");
        }
        return text.toString();
    }

    private static void grammar() {
        String[] noNumber = {";", "a", "caps", "stack", "$", "-", "\t"};
        Play.edge("5: a text begins with caps", () -> notAllowed("", ";", "3", "cap", "daps", "cups", "caqs", "capt", "capss", "scaps", "stack", "goal",
                "Caps", "$", "{"));
        Play.edge("5: behind caps stand at least five numbers", () -> {
            for (int caps = 0; caps < 5; caps++) {
                notAllowed("caps" + " 3".repeat(caps), noNumber);
            }
        });
        Play.edge("5: as many cells as caps, 5 to 12", () -> {
            for (int caps = 5; caps <= 12; caps++) {
                String text = "caps" + " 3".repeat(caps);
                Play.of(text + ";").due("count(0)", caps).due("count(9)", 3 * caps)
                        .due("cell(" + (caps - 1) + ", 0)", 3).due("cell(" + caps + ", 0)", Play.INDEX);
                notAllowed(text, "a", "caps", "stack", "$", "-");
            }
        });
        Play.edge("5: a thirteenth cap is not allowed, whatever its value", () ->
                notAllowed("caps" + " 3".repeat(12), "1", "8", "0", "9", "a", "stack", "$"));
        Play.edge("5: behind caps from cell 0 on", () -> Play.of("caps 8 7 6 5 4 3 2 1 2 3 4 5;")
                .stacks("8 ", "7 ", "6 ", "5 ", "4 ", "3 ", "2 ", "1 ", "2 ", "3 ", "4 ", "5 "));
        Play.edge("5: behind the caps come options and stacks, or the end", () -> {
            String[] wrong = {";", "3", "a", "b", "caps", "goals", "goa", "stac", "stacks", "turns", "reserv",
                "ttack", "stacl", "foal", "goam", "turm", "uurn", "qeriod", "perioe", "seserve", "reservf", "Goal", "$", "{"};
            for (String before : new String[] {CAPS, CAPS + "goal 3;", CAPS + " reserve 1 2;"}) {
                isRead(before, 0);
                isRead(before + "  ", 0);
                for (String token : wrong) {
                    fails(before + token, Play.SYNTAX, before.length());
                    fails(before + " " + token + " 1;", Play.SYNTAX, before.length() + 1);
                }
            }
        });
        Play.edge("5: an option is its word and a number, reserve two numbers", () -> {
            for (String option : OPTIONS) {
                notAllowed(CAPS + option, noNumber);
            }
            notAllowed(CAPS + "reserve 1", noNumber);
        });
        Play.edge("5: behind an option stands a semicolon", () -> {
            for (String option : OPTIONS) {
                notAllowed(CAPS + option + (option.equals("reserve") ? " 1 1" : " 1"), "1", "99", "a", "goal", "stack", "$");
            }
        });
        Play.edge("5: behind stack stands a number", () -> notAllowed(CAPS + "stack", noNumber));
        Play.edge("5: behind the cell of a stack stand letters", () -> notAllowed(CAPS + "stack 0", ";", "1", "$", "A", "-"));
        Play.edge("5: behind a stack stands a semicolon", () ->
                notAllowed(CAPS + "stack 0 ab", "1", "a", "c", "stack", "goal", "$"));
        Play.edge("5: options do not stand behind stacks", () -> {
            String before = CAPS + "stack 0 ab; ";
            for (String token : new String[] {"period", "goal", "reserve", "turn", ";", "0", "a", "caps", "$"}) {
                fails(before + token, Play.SYNTAX, before.length());
                fails(before + token + " 1;", Play.SYNTAX, before.length());
            }
        });
        Play.edge("5: an unexpected end, at any length of a text", TextEdgeTests::everyLength);
    }

    /** Every first part of a text: it is a game behind a semicolon, a cut word is an error, all else ends too early. */
    private static void everyLength() {
        String[] tokens = {"caps", "3", "1", "2", "8", "5", "1", ";", "period", "20", ";", "goal", "17", ";", "reserve",
            "11", "20", ";", "turn", "2", ";", "stack", "3", "abba", ";", "stack", "0", "b", ";"};
        StringBuilder text = new StringBuilder();
        for (String token : tokens) {
            boolean isKeyword = token.length() > 3 && !token.equals("abba");
            int start = text.length();
            for (int cut = 1; cut < token.length(); cut++) {
                String part = text + token.substring(0, cut);
                fails(part, Play.SYNTAX, isKeyword ? start : part.length());
            }
            text.append(token);
            for (int spaces = 0; spaces < 2; spaces++) {
                if (token.equals(";")) {
                    Play.fresh().load(text.toString(), text.toString().replaceAll("caps|goal|stack|[^ab]", "").length());
                } else {
                    fails(text.toString(), Play.SYNTAX, text.length());
                }
                text.append(' ');
            }
        }
    }

    private static void tokens() {
        Play.edge("5: spaces may stand in front of every token and at the end", () -> {
            Play.of("   caps   3   1  2 8   5 1   ;   period   2  ;  goal   7 ; reserve   1    20   ;  turn  2 ;"
                    + "   stack   3   abba   ;    stack  0   b  ;   ").due("count(6)", 5).due("count(3)", 2)
                    .due("count(4)", 7).due("player(1, 1)", 1).due("player(2, 1)", 20).due("count(1)", 2);
            isRead(" ".repeat(285) + CAPS, 0);
            isRead(CAPS + " ".repeat(285), 0);
        });
        Play.edge("5: no space has to stand between a word and a number", () ->
                Play.of("caps3 1 2 8 5 1;period2;goal7;reserve1 20;turn2;stack3abba;stack0b;").due("count(6)", 5)
                        .due("count(3)", 2).due("count(4)", 7).due("player(1, 1)", 1).due("player(2, 1)", 20)
                        .due("count(1)", 2).stacks("3 b", "1 ", "2 ", "8 abba"));
        Play.edge("5: a space parts a word and a number", () -> {
            fails("ca ps 3 3 3 3 3;", Play.SYNTAX, 0);
            fails(CAPS + "sta ck 0 a;", Play.SYNTAX, 15);
            fails(CAPS + "stack 0 a b;", Play.SYNTAX, 25);
            fails(CAPS + "goal 1 0;", Play.SYNTAX, 22);
            Play.of("caps 1 1 1 1 1 1;").due("count(0)", 6);
        });
        Play.edge("5: a word is the longest sequence of letters", () -> {
            fails("capscaps 3 3 3 3 3;", Play.SYNTAX, 0);
            fails(CAPS + "turnstack 1;", Play.SYNTAX, 15);
            fails(CAPS + "stack 0 aaaa;", Play.VALUE, 23);
        });
        Play.edge("5: a number is the longest sequence of digits", () -> {
            fails("caps 33333;", Play.VALUE, 5);
            fails(CAPS + "goal 41;", Play.VALUE, 20);
            fails(CAPS + "reserve 11;", Play.SYNTAX, 25);
        });
        Play.edge("5: zeros may stand in front of a number", () -> Play.of("caps 003 01 2 0000000000000000000008 05;"
                + "goal 000040; stack 0003 bb;").stacks("3 ", "1 ", "2 ", "8 bb", "5 ").due("count(4)", 40));
        Play.edge("5: the letters are a to z, the digits 0 to 9, the space is byte 32", () -> {
            for (int sign = 0; sign < 256; sign++) {
                boolean isToken = sign >= 'a' && sign <= 'z' || sign >= '0' && sign <= '9' || sign == ';' || sign == ' ';
                if (!isToken) {
                    fails(CAPS + (char) sign, Play.SYNTAX, 15);
                    fails("caps 3" + (char) sign + " 3 3 3 3;", Play.SYNTAX, 6);
                    fails(CAPS + "stack 0 a" + (char) sign, Play.SYNTAX, 24);
                }
            }
            isRead(CAPS + " ", 0);
            fails(CAPS + "stack 0 z;", Play.VALUE, 23);
            fails(CAPS + "goal 9a;", Play.SYNTAX, 21);
        });
    }

    /** The least and the greatest number of a range, and the next one on each side. */
    private static void range(String before, int least, int greatest, String after) {
        Play.fresh().load(before + least + after, 0);
        Play.fresh().load(before + greatest + after, 0);
        if (least > 0) {
            fails(before + (least - 1) + after, Play.VALUE, before.length());
        }
        fails(before + (greatest + 1) + after, Play.VALUE, before.length());
        fails(before + "00" + (greatest + 1) + after, Play.VALUE, before.length());
        fails(before + "2147483648" + after, Play.VALUE, before.length());
        fails(before + ((1L << 32) + greatest) + after, Play.VALUE, before.length());
        fails(before + "18446744073709551617" + after, Play.VALUE, before.length());
        fails(before + "9".repeat(100) + after, Play.VALUE, before.length());
        fails(before + "-1" + after, Play.SYNTAX, before.length());
    }

    private static void ranges() {
        Play.edge("5: each cap is 1 to 8", () -> {
            for (int before = 0; before < 12; before++) {
                range("caps" + " 2".repeat(before) + " ", 1, 8, " 2".repeat(before < 5 ? 4 - before : 0) + ";");
            }
        });
        Play.edge("5: the period is 0 to 20", () -> range(CAPS + "period ", 0, 20, ";"));
        Play.edge("5: the goal is 1 to 40", () -> range(CAPS + "goal ", 1, 40, ";"));
        Play.edge("5: the reserve of player 1 is 0 to 20", () -> range(CAPS + "reserve ", 0, 20, " 20;"));
        Play.edge("5: the reserve of player 2 is 0 to 20", () -> range(CAPS + "reserve 20 ", 0, 20, ";"));
        Play.edge("5: the turn is that of player 1 or 2", () -> range(CAPS + "turn ", 1, 2, ";"));
        Play.edge("5: a stack's cell exists", () -> {
            for (int cells = 5; cells <= 12; cells++) {
                String before = "caps" + " 3".repeat(cells) + "; stack ";
                isRead(before + "0 a;", 1);
                isRead(before + (cells - 1) + " a;", 1);
                for (String wrong : new String[] {String.valueOf(cells), "99", "4294967296", "-1"}) {
                    fails(before + wrong + " a;", wrong.equals("-1") ? Play.SYNTAX : Play.VALUE, before.length());
                }
            }
        });
        Play.edge("5: the numbers of the options", () -> {
            Play.of(CAPS + "period 20; goal 40; reserve 20 0; turn 2;").row("count(", 5, 2, 0, 20, 40)
                    .due("player(1, 1)", 20).due("player(2, 1)", 0);
            Play.of(CAPS + "turn 1; reserve 0 20; goal 1; period 0;").row("count(", 5, 1, 0, 0, 1)
                    .due("player(1, 1)", 0).due("player(2, 1)", 20);
        });
        Play.edge("5: period 0, goal 5, reserves 0 and turn 1 without the options", () -> {
            Play play = Play.of(CAPS + "period 20; goal 40; reserve 20 20; turn 2;").load(CAPS, 0);
            play.row("count(", 5, 1, 0, 0, 5).due("player(1, 1)", 0).due("player(2, 1)", 0);
        });
        Play.edge("5: of several options of a kind the last one counts", () -> Play.of(CAPS + "turn 2; period 3; goal 9;"
                + "reserve 7 8; turn 1; reserve 0 9; goal 4; period 0; period 6; turn 2; turn 2;")
                .row("count(", 5, 2, 0, 6, 4).due("player(1, 1)", 0).due("player(2, 1)", 9));
        Play.edge("5: an earlier option of a kind may not be wrong", () -> fails(CAPS + "goal 41; goal 4;", Play.VALUE, 20));
    }

    private static void stacks() {
        Play.edge("5: a stack's pieces from the lowest one upward: a for player 1, b for player 2", () ->
                Play.of("caps 8 8 8 8 8; stack 4 abbbaaba;").due("piece(4, 0)", 1).due("piece(4, 1)", 2)
                        .due("piece(4, 6)", 2).due("piece(4, 7)", 1).stacks("8 ", "8 ", "8 ", "8 ", "8 abbbaaba"));
        Play.edge("5: cells that are not told are empty", () -> Play.of("caps 8 8 8 8 8; stack 2 ab;")
                .load("caps 8 8 8 8 8; stack 3 b;", 1).stacks("8 ", "8 ", "8 ", "8 b", "8 "));
        Play.edge("5: every cell may be told, in any order", () -> Play.of("caps 1 2 3 4 5; stack 4 aaaaa; stack 2 bbb;"
                + "stack 0 a; stack 3 bbbb; stack 1 aa;").stacks("1 a", "2 aa", "3 bbb", "4 bbbb", "5 aaaaa"));
        Play.edge("5: a cell may not be told twice", () -> {
            for (int cells = 5; cells <= 12; cells += 7) {
                for (int cell = 0; cell < cells; cell++) {
                    String before = "caps" + " 3".repeat(cells) + "; stack " + cell + " a; stack ";
                    fails(before + cell + " a;", Play.VALUE, before.length());
                    fails(before + "00" + cell, Play.VALUE, before.length());
                    fails(before + cell + " ;", Play.VALUE, before.length());
                    isRead(before + (cell + 1) % cells + " a;", 2);
                }
            }
        });
        Play.edge("5: as many letters as the cap, and one more", () -> {
            for (int cap = 1; cap <= 8; cap++) {
                String before = "caps 8 8 " + cap + " 8 8; stack 2 ";
                isRead(before + "ab".repeat(8).substring(0, cap) + ";", cap);
                fails(before + "ab".repeat(8).substring(0, cap + 1) + ";", Play.VALUE, before.length());
            }
            fails(CAPS + "stack 0 " + "a".repeat(277), Play.VALUE, 23);
        });
        Play.edge("5: letters other than a and b, at the first byte of the word", () -> {
            for (char letter = 'c'; letter <= 'z'; letter++) {
                fails(CAPS + "stack 0 " + letter + ";", Play.VALUE, 23);
                fails(CAPS + "stack 0 a" + letter, Play.VALUE, 23);
                fails(CAPS + "stack 0 ab" + letter + " ;", Play.VALUE, 23);
            }
            fails(CAPS + "stack 0 stack", Play.VALUE, 23);
        });
        Play.edge("5: reading stops at the first error", () -> {
            fails("caps 9 0 ;", Play.VALUE, 5);
            fails(CAPS + "goal 0; period $", Play.VALUE, 20);
            fails(CAPS + "goal $; period 21;", Play.SYNTAX, 20);
            fails(CAPS + "stack 5 $", Play.VALUE, 21);
            fails(CAPS + "stack 0 aaaa$", Play.VALUE, 23);
            fails(CAPS + "stack 0 ab$; stack 0 a;", Play.SYNTAX, 25);
            fails(CAPS + "reserve 0 21 ;;", Play.VALUE, 25);
        });
        Play.edge("5: a syntax error goes before a value error in the same place", () -> {
            fails("caps 3 3 3 3 3 3 3 3 3 3 3 3 9;", Play.SYNTAX, 29);
            fails("caps 3 3 3 3 3 3 3 3 3 3 3 3 0;", Play.SYNTAX, 29);
            fails("caps 3 3 3 3 ;", Play.SYNTAX, 13);
            fails(CAPS + "goal 1 41;", Play.SYNTAX, 22);
            fails(CAPS + "stack 0 ab zzzz;", Play.SYNTAX, 26);
        });
    }

    private static void writing() {
        Play.edge("25: the cap, a space and the pieces, a for player 1, b for player 2", () -> {
            Play play = Play.of("caps 1 2 3 4 5 6 7 8; stack 0 b; stack 1 ab; stack 2 bba; stack 7 abbabaab;");
            play.stacks("1 b", "2 ab", "3 bba", "4 ", "5 ", "6 ", "7 ", "8 abbabaab");
        });
        Play.edge("25: returns the length, 2 to 10", () -> {
            for (int height = 0; height <= 8; height++) {
                String stack = height == 0 ? "" : "stack 4 " + "b".repeat(height) + ";";
                Play.of("caps 8 8 8 8 8;" + stack).due("writeStack(4)", 2 + height)
                        .due("writtenByte(" + (1 + height) + ")", height == 0 ? ' ' : 'b')
                        .due("writtenByte(" + (2 + height) + ")", Play.INDEX);
            }
        });
        Play.edge("25: in place of what was written before", () -> Play.of("caps 8 2 8 8 8; stack 0 aaaaaaaa; stack 1 b;")
                .due("writeStack(0)", 10).due("writeStack(1)", 3).due("writtenByte(0)", '2').due("writtenByte(2)", 'b')
                .all(Play.INDEX, "writtenByte(3)", "writtenByte(9)").due("writeStack(2)", 2)
                .all(Play.INDEX, "writtenByte(2)").due("writeStack(0)", 10).due("writtenByte(9)", 'a'));
        Play.edge("25: a cell that does not exist", () -> {
            String[] wrong = {"writeStack(-1)", "writeStack(5)", "writeStack(12)", "writeStack(" + Play.LEAST + ")",
                "writeStack(" + Play.MOST + ")"};
            Play.refused(() -> Play.of(CAPS + "stack 1 ab;").due("writeStack(1)", 4), Play.INDEX, wrong);
            Play.of("caps" + " 1".repeat(12) + ";").due("writeStack(11)", 2).due("writeStack(12)", Play.INDEX);
        });
        Play.edge("26: there is no byte at first", () -> Play.of(CAPS + "stack 0 a;").all(Play.INDEX, "writtenByte(0)",
                "writtenByte(1)", "writtenByte(-1)"));
        Play.edge("26: bytes that there are not", () -> Play.of(CAPS + "stack 0 ab;").due("writeStack(0)", 4)
                .due("writtenByte(0)", '3').due("writtenByte(3)", 'b').all(Play.INDEX, "writtenByte(4)", "writtenByte(-1)",
                "writtenByte(9)", "writtenByte(10)", "writtenByte(" + Play.LEAST + ")", "writtenByte(" + Play.MOST + ")"));
        Play.edge("26: the text that was written last stays when the stack changes", () -> Play.of(CAPS + "stack 0 ab;")
                .due("writeStack(0)", 4).load(CAPS, 0).due("writtenByte(3)", 'b').due("undo()", 1)
                .due("setTurn(2)", 1).due("roll(0)", 1).due("writtenByte(2)", 'a').due("writtenByte(3)", 'b'));
    }

    public static void main(String[] args) {
        newObject();
        append();
        lengths();
        replacing();
        grammar();
        tokens();
        ranges();
        stacks();
        writing();
        Checks.end();
    }
}
