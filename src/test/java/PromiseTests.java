/** At least one test for each promise of the document: ordinary inputs, the edges it names, wrong inputs. */
public final class PromiseTests {
    private static final String INDEX = "throws IndexOutOfBoundsException";
    private static final String ARGUMENT = "throws IllegalArgumentException";
    private static final String STATE = "throws IllegalStateException";
    private static final String ELEMENT = "throws NoSuchElementException";

    private static final int LEAST = Integer.MIN_VALUE;
    private static final int MOST = Integer.MAX_VALUE;

    private PromiseTests() {
    }

    private static void due(Object ring, String call, int want) {
        Checks.due(ring, call, want);
    }

    private static void due(Object ring, String call, String want) {
        Checks.due(ring, call, want);
    }

    private static void stacks(TowerRing ring, String... want) {
        for (int cell = 0; cell < want.length; cell++) {
            Checks.due("stack " + cell, Checks.stack(ring, cell), want[cell]);
        }
    }

    /** A call that throws changes nothing. */
    private static void refused(TowerRing ring, String call, String want) {
        String before = Checks.view(ring);
        due(ring, call, want);
        Checks.due("the game after " + call, Checks.view(ring), before);
    }

    private static void promise1NewObject() {
        TowerRing ring = new TowerRing();
        int[] counts = {5, 1, 0, 0, 5, 0, 0, 5, 0, 15};
        for (int what = 0; what < counts.length; what++) {
            due(ring, "count(" + what + ")", counts[what]);
        }
        stacks(ring, "3 ", "3 ", "3 ", "3 ", "3 ");
        for (int player = 1; player <= 2; player++) {
            for (int what = 0; what < 6; what++) {
                due(ring, "player(" + player + ", " + what + ")", 0);
            }
        }
        due(ring, "load(0)", -2);
        due(ring, "load(1)", ARGUMENT);
        due(ring, "restore(0)", STATE);
        due(ring, "restore(1)", STATE);
        due(ring, "undo()", STATE);
        due(new TowerRing(), "errorPosition()", -1);
        due(new TowerRing(), "writtenByte(0)", INDEX);
    }

    private static void promise2Append() {
        TowerRing ring = new TowerRing();
        appendCapsAndAStack(ring);
        due(ring, "load(32)", 4);
        stacks(ring, "1 ", "2 ", "3 ", "4 abba", "5 ");
        appendCapsAndAStack(ring);
        due(ring, "load(40)", -2);
        due(ring, "errorPosition()", 32);
        for (int length = 20; length <= 300; length += 20) {
            due(ring, "append(" + LEAST + ", " + MOST + ", -1, 0, 1)", length);
        }
        due(ring, "append(0, 0, 0, 0, 0)", STATE);
        due(ring, "load(301)", ARGUMENT);
        due(ring, "load(300)", -2);
        due(ring, "append(0, 0, 0, 0, 0)", 20);
        String text = "caps 1 1 1 1 1;" + " ".repeat(284);
        Checks.due("a text of 300 bytes", Checks.load(new TowerRing(), text + " "), "0");
        Checks.due("a last byte that is not allowed", Checks.load(new TowerRing(), text + ";"), "-2");
    }

    /** "caps 1 2 3 4 5;stack 3 abba;    " and eight bytes that no text may hold. */
    private static void appendCapsAndAStack(TowerRing ring) {
        Checks.due("the first append",
                Checks.call(ring, "append", 0x63617073, 0x20312032, 0x20332034, 0x20353b73, 0x7461636b), "20");
        Checks.due("the second append",
                Checks.call(ring, "append", 0x20332061, 0x6262613b, 0x20202020, -1, LEAST), "40");
    }

    private static void promise3Load() {
        TowerRing ring = Checks.game("caps 4 3 8 1 2 7; period 2; goal 40; reserve 20 0; turn 2; stack 5 abbabab; stack 0 b;");
        int[] counts = {6, 2, 0, 2, 40, 0, 8, 4, 7, 25};
        for (int what = 0; what < counts.length; what++) {
            due(ring, "count(" + what + ")", counts[what]);
        }
        stacks(ring, "4 b", "3 ", "8 ", "1 ", "2 ", "7 abbabab");
        due(ring, "player(1, 1)", 20);
        due(ring, "player(2, 1)", 0);
        ring = Checks.game("caps 1 1 1 1 1 1 1 1 1 1 1 1;stack 11 a;stack 0 b;");
        due(ring, "count(0)", 12);
        due(ring, "carry(11, 0, 1)", 1);
        due(ring, "player(1, 2)", 1);
        Checks.due("the next load", Checks.load(ring, "caps 2 2 2 2 2;period 20; period 0; goal 1; goal 7"
                + "; turn 2; turn 1; reserve 1 2; reserve 0 20; stack 4 aa;"), "2");
        int[] next = {5, 1, 0, 0, 7, 0, 2, 4, 2, 10};
        for (int what = 0; what < next.length; what++) {
            due(ring, "count(" + what + ")", next[what]);
        }
        due(ring, "player(1, 1)", 0);
        due(ring, "player(2, 1)", 20);
        due(ring, "player(1, 2)", 0);
        Checks.due("a text with options", Checks.load(ring, "caps 8 8 8 8 8; period 20; goal 40; reserve 20 20; turn 2;"
                + "stack 0 aaaaaaaa; stack 1 bbbbbbbb; stack 4 abababab;"), "24");
        Checks.due("a text without options", Checks.load(ring, "caps3 3 3 3 003 ;  "), "0");
        int[] without = {5, 1, 0, 0, 5, 0, 0, 5, 0, 15};
        for (int what = 0; what < without.length; what++) {
            due(ring, "count(" + what + ")", without[what]);
        }
        due(ring, "player(1, 1)", 0);
        due(ring, "player(2, 1)", 0);
        refused(ring, "load(-1)", ARGUMENT);
        refused(ring, "load(" + LEAST + ")", ARGUMENT);
        Checks.fill(ring, "caps 1 2 3 4 55;    ");
        due(ring, "load(14)", -2);
        due(ring, "errorPosition()", 14);
        Checks.fill(ring, "caps 1 2 3 4 5;stack");
        due(ring, "load(18)", -2);
        due(ring, "errorPosition()", 15);
        Checks.fill(ring, "caps 1 2 3 4 5;");
        refused(ring, "load(21)", ARGUMENT);
        due(ring, "load(15)", 0);
        due(ring, "load(15)", ARGUMENT);
        due(ring, "undo()", 5);
        due(ring, "count(9)", 15);
    }

    private static void error(String text, int code, int position) {
        TowerRing ring = Checks.game("caps 2 2 2 2 2; stack 1 ab;");
        String before = Checks.view(ring);
        Checks.due("\"" + text + "\"", Checks.load(ring, text), String.valueOf(code));
        Checks.due("the position in \"" + text + "\"", Checks.call(ring, "errorPosition"), String.valueOf(position));
        Checks.due("the game after \"" + text + "\"", Checks.view(ring), before);
        due(ring, "load(1)", ARGUMENT);
        due(ring, "undo()", 0);
    }

    private static void promise3Errors() {
        error("", -2, 0);
        error("   ", -2, 3);
        error("cap", -2, 0);
        error("daps 3 3 3 3 3;", -2, 0);
        error("caps 3 3 3 3 3;foal 3;", -2, 15);
        error("caps 3 3 3 3 3;stack 0 z;", -3, 23);
        error("caps 3 3 3 3 3;stack 0 az;", -3, 23);
        error("caps 3 3 3 3 3;stack 0 a{;", -2, 24);
        error("caps 3 3 3 3 3;stack 0 a`;", -2, 24);
        error("caps 3 3 3 3 3;stack 0:a;", -2, 22);
        error("caps 3 3 3 3 3;stack /a;", -2, 21);
        error(" capsx 3 3 3 3 3;", -2, 1);
        error("Caps 3 3 3 3 3;", -2, 0);
        error("caps", -2, 4);
        error("caps ;", -2, 5);
        error("caps 3 3 3 3;", -2, 12);
        error("caps 3 3 3 3 stack", -2, 13);
        error("caps 3 3 3 3 9", -3, 13);
        error("caps 3 3 3 3 0;", -3, 13);
        error("caps 3 3 3 3 99999999999999999999999999;", -3, 13);
        error("caps 3 3 3 3 4294967299;", -3, 13);
        error("caps 3 3 3 3 -3;", -2, 13);
        error("caps 3 3 3 3 3", -2, 14);
        error("caps 3 3 3 3 3  ", -2, 16);
        error("caps 3 3 3 3 3 3 3 3 3 3 3 3 3;", -2, 29);
        error("caps 3 3 3 3 3 3 3 3 3 3 3 3 0;", -2, 29);
        error("caps 3 3 3 3 3;;", -2, 15);
        error("caps 3 3 3 3 3;3", -2, 15);
        error("caps 3 3 3 3 3;\t", -2, 15);
        error("caps 3 3 3 3 3;\u00e9", -2, 15);
        error("caps 3 3 3 3 3;goals 1;", -2, 15);
        error("caps 3 3 3 3 3;goal;", -2, 19);
        error("caps 3 3 3 3 3;goal 0;", -3, 20);
        error("caps 3 3 3 3 3;goal 41;", -3, 20);
        error("caps 3 3 3 3 3;goal 4 1;", -2, 22);
        error("caps 3 3 3 3 3;period 21;", -3, 22);
        error("caps 3 3 3 3 3;period", -2, 21);
        error("caps 3 3 3 3 3;turn 0;", -3, 20);
        error("caps 3 3 3 3 3;turn 3;", -3, 20);
        error("caps 3 3 3 3 3;reserve 3;", -2, 24);
        error("caps 3 3 3 3 3;reserve 21 21;", -3, 23);
        error("caps 3 3 3 3 3;reserve 20 21;", -3, 26);
        error("caps 3 3 3 3 3;reserve 3 3", -2, 26);
        error("caps 3 3 3 3 3;stack a;", -2, 21);
        error("caps 3 3 3 3 3;stack 5 c;", -3, 21);
        error("caps 3 3 3 3 3;stack 0;", -2, 22);
        error("caps 3 3 3 3 3;stack 0", -2, 22);
        error("caps 3 3 3 3 3;stack 0 A;", -2, 23);
        error("caps 3 3 3 3 3;stack 0 abc;", -3, 23);
        error("caps 3 3 3 3 3;stack 0 abab;", -3, 23);
        error("caps 3 3 3 3 3;stack 0 ab", -2, 25);
        error("caps 3 3 3 3 3;stack 0 a b;", -2, 25);
        error("caps 3 3 3 3 3;stack 0 abA;", -2, 25);
        error("caps 3 3 3 3 3;stack 0 a;stack 00 x;", -3, 31);
        error("caps 3 3 3 3 3;stack 0 a;goal 3;", -2, 25);
    }

    private static void promise4ErrorPosition() {
        TowerRing ring = new TowerRing();
        due(ring, "errorPosition()", -1);
        due(ring, "load(1)", ARGUMENT);
        due(ring, "errorPosition()", -1);
        Checks.load(ring, "caps 3 3 3 3 3; goal 77;");
        due(ring, "errorPosition()", 21);
        due(ring, "load(1)", ARGUMENT);
        due(ring, "setTurn(2)", 1);
        due(ring, "undo()", 0);
        due(ring, "errorPosition()", 21);
        Checks.load(ring, "caps 3 3 3 3 3;");
        due(ring, "errorPosition()", -1);
    }

    private static void promise5Count() {
        TowerRing ring = Checks.game("caps 4 3 8 1 2 7; period 3; goal 2; turn 2; stack 5 abbabab; stack 4 ba;");
        int[] counts = {6, 2, 0, 3, 2, 0, 9, 4, 7, 25};
        for (int what = 0; what < counts.length; what++) {
            due(ring, "count(" + what + ")", counts[what]);
        }
        due(ring, "carry(5, 1, 1)", 1);
        due(ring, "count(1)", 1);
        due(ring, "count(2)", 1);
        due(ring, "count(5)", 0);
        due(ring, "carry(5, 1, 1)", 0);
        due(ring, "count(5)", 0);
        due(ring, "carry(5, 1, 1)", 1);
        due(ring, "count(5)", 2);
        due(ring, "setTurn(2)", 1);
        due(ring, "count(2)", 3);
        due(ring, "count(-1)", ARGUMENT);
        due(ring, "count(10)", ARGUMENT);
        due(ring, "count(" + LEAST + ")", ARGUMENT);
        ring = Checks.game("caps 3 3 3 3 3; goal 2; turn 2; stack 0 b; stack 1 a; stack 2 a;");
        due(ring, "carry(0, 0, 1)", 1);
        due(ring, "count(5)", 0);
        due(ring, "roll(2)", STATE);
        due(ring, "setTurn(2)", 1);
        due(ring, "carry(1, 0, 1)", 1);
        due(ring, "count(5)", 2);
    }

    private static void promise6Cell() {
        TowerRing ring = Checks.game("caps 4 3 8 1 2; stack 2 abbaabaa; stack 4 bb; stack 3 a;");
        int[][] want = {{4, 0, 0, 0, 0}, {3, 0, 0, 0, 0}, {8, 8, 1, 2, 5}, {1, 1, 1, 1, 1}, {2, 2, 2, 2, 0}};
        for (int cell = 0; cell < 5; cell++) {
            for (int what = 0; what < 5; what++) {
                due(ring, "cell(" + cell + ", " + what + ")", want[cell][what]);
            }
        }
        due(ring, "cell(5, 0)", INDEX);
        due(ring, "cell(-1, 9)", INDEX);
        due(ring, "cell(" + MOST + ", 0)", INDEX);
        due(ring, "cell(0, 5)", ARGUMENT);
        due(ring, "cell(0, -1)", ARGUMENT);
    }

    private static void promise7Piece() {
        TowerRing ring = Checks.game("caps 4 3 8 1 2; stack 2 abbaabaa;");
        int[] want = {1, 2, 2, 1, 1, 2, 1, 1};
        for (int piece = 0; piece < 8; piece++) {
            due(ring, "piece(2, " + piece + ")", want[piece]);
        }
        due(ring, "piece(2, 8)", INDEX);
        due(ring, "piece(2, -1)", INDEX);
        due(ring, "piece(0, 0)", INDEX);
        due(ring, "piece(5, 0)", INDEX);
        due(ring, "piece(-1, 0)", INDEX);
    }

    private static void promise8Player() {
        TowerRing ring = Checks.game("caps 4 4 4 4 4; reserve 3 5; stack 0 aaba; stack 1 bbaa; stack 2 abab; stack 3 a;");
        int[] one = {8, 3, 0, 3, 4, 2};
        int[] two = {5, 5, 0, 1, 4, -2};
        for (int what = 0; what < 6; what++) {
            due(ring, "player(1, " + what + ")", one[what]);
            due(ring, "player(2, " + what + ")", two[what]);
        }
        TowerRing other = Checks.game("caps 4 4 4 4 4; stack 0 abab; stack 1 aab; stack 2 aabb; stack 3 bba;");
        due(other, "player(1, 4)", 6);
        due(other, "player(2, 4)", 3);
        due(ring, "carry(3, 1, 1)", 1);
        due(ring, "player(1, 2)", 1);
        due(ring, "player(2, 2)", 0);
        due(ring, "player(1, 5)", 6);
        due(ring, "player(2, 5)", -6);
        due(ring, "player(0, 0)", ARGUMENT);
        due(ring, "player(3, 0)", ARGUMENT);
        due(ring, "player(1, 6)", ARGUMENT);
        due(ring, "player(2, -1)", ARGUMENT);
    }

    private static void promise9Highest() {
        TowerRing ring = Checks.game("caps 4 4 4 4 4; stack 0 bb; stack 1 bba; stack 2 b; stack 3 aaa; stack 4 aaab;");
        due(ring, "highest(1)", 1);
        due(ring, "highest(2)", 4);
        due(ring, "highest(0)", ARGUMENT);
        due(ring, "highest(3)", ARGUMENT);
        ring = Checks.game("caps 4 4 4 4 4; stack 2 b; stack 3 b;");
        due(ring, "highest(1)", ELEMENT);
        due(ring, "highest(2)", 2);
    }

    private static void promise10Reason() {
        TowerRing ring = Checks.game("caps 2 2 2 2 2; goal 1; reserve 0 1; stack 0 ba; stack 1 b; stack 2 a; stack 3 ab;");
        due(ring, "reason(1)", 0);
        due(ring, "reason(12)", 0);
        due(ring, "reason(3)", 3);
        due(ring, "reason(101)", 2);
        due(ring, "reason(104)", 2);
        due(ring, "reason(201)", 0);
        due(ring, "reason(202)", 3);
        due(ring, "reason(401)", 2);
        due(ring, "reason(2000)", 0);
        due(ring, "reason(2001)", 2);
        due(ring, "reason(2002)", 3);
        due(ring, "reason(2004)", 2);
        due(ring, "reason(3000)", 3);
        due(ring, "reason(3001)", 2);
        due(ring, "reason(3002)", 4);
        due(ring, "reason(3003)", 2);
        due(ring, "reason(3004)", 4);
        due(ring, "setTurn(2)", 1);
        due(ring, "reason(3004)", 0);
        due(ring, "reason(3001)", 0);
        int[] wrong = {-1, 0, 5, 9, 10, 15, 20, 21, 99, 100, 501, 1001, 1999, 2005, 2999, 3005, 4000, 1101, LEAST, MOST,
            -2000, 601, 30, 91};
        for (int code : wrong) {
            refused(ring, "reason(" + code + ")", ARGUMENT);
        }
        due(ring, "carry(1, 0, 1)", 1);
        for (int code : new int[] {1, 101, 2000, 2004, 3000, 3004}) {
            due(ring, "reason(" + code + ")", 1);
        }
        ring = Checks.game("caps 1 1 1 1 1 1 1 1 1 1 1 1; stack 11 a;");
        due(ring, "reason(1101)", 0);
        due(ring, "reason(1111)", 0);
        due(ring, "reason(1114)", 3);
        due(ring, "reason(2011)", 3);
        due(ring, "reason(3011)", 3);
        due(ring, "reason(3010)", 4);
        due(ring, "reason(1201)", ARGUMENT);
        due(ring, "reason(2012)", ARGUMENT);
        due(ring, "reason(3012)", ARGUMENT);
    }

    /** Two lone pieces go round: the position behind the load comes again with the fourth move. */
    private static void goThere(TowerRing ring) {
        due(ring, "carry(0, 0, 1)", 0);
        due(ring, "carry(2, 0, 1)", 0);
        due(ring, "carry(1, 1, 1)", 0);
    }

    private static void promise10Repetition() {
        TowerRing ring = Checks.game("caps 3 3 3 3 3; stack 0 a; stack 2 b;");
        goThere(ring);
        due(ring, "reason(311)", 5);
        refused(ring, "carry(3, 1, 1)", STATE);
        due(ring, "answers(301)", 2);
        due(ring, "setPeriod(0)", 0);
        due(ring, "reason(311)", 0);
        due(ring, "undo()", 4);
        due(ring, "reason(311)", 5);
        due(ring, "rotateCaps()", 0);
        due(ring, "reason(311)", 0);
        due(ring, "undo()", 4);
        due(ring, "setTurn(2)", 2);
        due(ring, "reason(311)", 0);
        due(ring, "undo()", 4);
        due(ring, "save(0)", 2);
        due(ring, "setTurn(1)", 2);
        due(ring, "restore(0)", 2);
        due(ring, "reason(311)", 5);
        due(ring, "undo()", 5);
        due(ring, "count(1)", 1);
        ring = new TowerRing();
        Checks.due("no repetition across a load", Checks.load(ring, "caps 3 3 3 3 3; stack 0 a; stack 2 b;"), "2");
        goThere(ring);
        Checks.load(ring, "caps 3 3 3 3 3; stack 0 a; stack 3 b; turn 2;");
        Checks.load(ring, "caps 3 3 3 3 3; turn 2; stack 0 a; stack 3 b;");
        due(ring, "reason(311)", 0);
    }

    /** A roll of 'aa' and 'bb' leads to the same stacks, so that only the turn and the caps tell positions apart. */
    private static void promise10TurnAndCaps() {
        TowerRing ring = Checks.game("caps 2 2 2 2 2; stack 0 aa; stack 1 bb;");
        due(ring, "reason(2000)", 0);
        due(ring, "roll(0)", 1);
        due(ring, "reason(2001)", 5);
        due(ring, "reason(101)", 0);
        ring = Checks.game("caps 2 2 2 2 3; period 1; stack 0 aa; stack 1 bb;");
        due(ring, "roll(0)", 1);
        for (int turn = 0; turn < 8; turn++) {
            due(ring, "reason(" + (turn % 2 == 0 ? 2001 : 2000) + ")", 0);
            due(ring, "roll(" + (turn % 2 == 0 ? 1 : 0) + ")", turn % 2 == 0 ? 2 : 1);
        }
        due(ring, "cell(4, 0)", 2);
        due(ring, "cell(3, 0)", 3);
        due(ring, "reason(2001)", 5);
    }

    /** The position behind the load is the oldest one that counts when the 20th move would lead to it again. */
    private static void promise10TwentyPositions() {
        TowerRing ring = Checks.game("caps 3 3 3 3 3 3 3 3 3 3 3 3; goal 40; stack 0 a; stack 6 b;");
        int[] wayOfA = {0, 1, 2, 3, 2, 1, 0, -1, -2, -1, 0};
        int[] wayOfB = {6, 7, 8, 9, 10, 11, 10, 9, 8, 7, 6};
        for (int step = 0; step < 10; step++) {
            walk(ring, Math.floorMod(wayOfA[step], 12), wayOfA[step + 1] < wayOfA[step]);
            if (step < 9) {
                walk(ring, wayOfB[step], wayOfB[step + 1] < wayOfB[step]);
            }
        }
        due(ring, "count(2)", 19);
        due(ring, "reason(711)", 5);
        refused(ring, "carry(7, 1, 1)", STATE);
        due(ring, "reason(701)", 0);
        due(ring, "save(0)", 2);
        due(ring, "undo()", 7);
        due(ring, "carry(11, 0, 1)", 0);
        due(ring, "reason(711)", 5);
        due(ring, "setTurn(2)", 2);
        due(ring, "reason(711)", 0);
        due(ring, "restore(0)", 2);
        due(ring, "reason(711)", 5);
    }

    private static void walk(TowerRing ring, int cell, boolean isBack) {
        due(ring, "reason(" + (100 * cell + (isBack ? 11 : 1)) + ")", 0);
        due(ring, "carry(" + cell + ", " + (isBack ? 1 : 0) + ", 1)", 0);
    }

    /** The 22nd move may lead to the position behind the load. */
    private static void promise10OlderPositions() {
        TowerRing ring = Checks.game("caps 3 3 3 3 3 3 3 3 3 3 3; goal 40; stack 0 a; stack 6 b;");
        for (int step = 0; step < 11; step++) {
            walk(ring, step, false);
            walk(ring, (6 + step) % 11, false);
        }
        due(ring, "count(2)", 22);
        stacks(ring, "3 a", "3 ", "3 ", "3 ", "3 ", "3 ", "3 b");
        due(ring, "undo()", 7);
        due(ring, "setPeriod(0)", 0);
        due(ring, "carry(5, 1, 1)", 0);
        due(ring, "reason(11)", 0);
    }

    /** Positions that differ in the order of two pieces alone, in any cell and at any height. */
    private static void promise10OrderOfPieces() {
        for (int cell = 0; cell < 12; cell++) {
            for (int below = 0; below <= 6; below++) {
                int other = (cell + 6) % 12;
                TowerRing ring = Checks.game("caps 8 8 8 8 8 8 8 8 8 8 8 8; stack " + cell + " " + "a".repeat(below)
                        + "ba; stack " + other + " bb;");
                due(ring, "roll(" + cell + ")", 2);
                due(ring, "reason(" + (2000 + other) + ")", 0);
                due(ring, "roll(" + other + ")", 2);
            }
        }
    }

    /** Two lone pieces go round the ring and stand in each other's cell at last. */
    private static void promise10ChangedPlaces() {
        for (int cells = 6; cells <= 10; cells += 2) {
            for (int start = 0; start < cells; start++) {
                TowerRing ring = Checks.game("caps" + " 8".repeat(cells) + "; stack " + start + " a; stack "
                        + (start + 1) % cells + " b;");
                int a = start;
                int b = start + 1;
                for (int step = 1; step < cells; step++) {
                    boolean isBack = 2 * step < cells;
                    walk(ring, Math.floorMod(a, cells), isBack);
                    walk(ring, b % cells, false);
                    a += isBack ? -1 : 1;
                    b++;
                }
                due(ring, "cell(" + start + ", 2)", 2);
                due(ring, "cell(" + (start + 1) % cells + ", 2)", 1);
            }
        }
    }

    /** Positions in which some uppermost pieces of one of two stacks lie on the other one. */
    private static void promise10Heights() {
        for (int k = 1; k <= 4; k++) {
            for (int height = k; height <= 8; height++) {
                String low = "a".repeat(8 - k);
                TowerRing ring = Checks.game("caps 8 8 8 8 8 8 8; turn 2; stack 0 " + "a".repeat(height - 1) + "b;"
                        + (k < 4 ? "stack " + k + " " + low + "; " : "") + "stack 6 aa;");
                due(ring, "carry(0, 0, " + k + ")", 0);
                due(ring, "reason(2006)", 0);
                due(ring, "roll(6)", 1);
            }
        }
    }

    /** The stacks come again, but a piece of the reserve was dropped and stolen meanwhile. */
    private static void promise10Reserves() {
        TowerRing ring = Checks.game("caps 3 3 3 3 3; reserve 1 0; stack 0 aa; stack 2 b;");
        due(ring, "drop(3)", 0);
        due(ring, "carry(2, 0, 1)", 1);
        due(ring, "roll(0)", 1);
        due(ring, "reason(311)", 0);
        ring = Checks.game("caps 3 3 3 3 3; reserve 1 20; stack 0 aa; stack 2 b;");
        due(ring, "drop(3)", 0);
        due(ring, "carry(2, 0, 1)", 1);
        due(ring, "roll(0)", 1);
        due(ring, "reason(311)", 0);
        ring = Checks.game("caps 3 3 3 3 3; turn 2; reserve 0 1; stack 0 bb; stack 2 a;");
        due(ring, "drop(3)", 0);
        due(ring, "carry(2, 0, 1)", 1);
        due(ring, "roll(0)", 2);
        due(ring, "reason(311)", 0);
        ring = Checks.game("caps 3 3 3 3 3; reserve 1 1; stack 0 aa; stack 2 b;");
        due(ring, "roll(0)", 1);
        due(ring, "carry(2, 0, 1)", 0);
        due(ring, "roll(0)", 1);
        due(ring, "reason(311)", 5);
    }

    /** Each of the positions before setTurn is forgotten, not the first one alone. */
    private static void promise10AnewBehindMoves() {
        TowerRing ring = Checks.game("caps 3 3 3 3 3 3 3; stack 0 a; stack 3 b;");
        due(ring, "carry(0, 1, 1)", 0);
        due(ring, "carry(3, 0, 1)", 0);
        due(ring, "carry(6, 0, 1)", 0);
        due(ring, "carry(4, 0, 1)", 0);
        due(ring, "carry(0, 1, 1)", 0);
        due(ring, "reason(511)", 5);
        due(ring, "setPeriod(1)", 0);
        due(ring, "reason(511)", 0);
        due(ring, "undo()", 6);
        due(ring, "reason(511)", 5);
        due(ring, "setPeriod(0)", 0);
        due(ring, "carry(5, 1, 1)", 0);
        due(ring, "undo()", 7);
        due(ring, "undo()", 6);
        due(ring, "reason(511)", 5);
        due(ring, "reason(501)", 0);
    }

    private static void promise11Carry() {
        TowerRing ring = Checks.game("caps 4 4 4 2 2; goal 9; stack 0 bba; stack 2 abb; stack 3 ba; stack 4 b;");
        due(ring, "carry(0, 0, 2)", 2);
        stacks(ring, "4 b", "4 ", "4 aba", "2 ba", "2 b");
        due(ring, "player(1, 2)", 2);
        due(ring, "player(2, 2)", 0);
        due(ring, "carry(4, 1, 1)", 1);
        stacks(ring, "4 b", "4 ", "4 aba", "2 bb", "2 ");
        due(ring, "player(2, 2)", 1);
        due(ring, "carry(2, 0, 3)", 1);
        stacks(ring, "4 aba", "4 ", "4 ", "2 bb", "2 ");
        due(ring, "player(1, 2)", 3);
        due(ring, "count(2)", 3);
        due(ring, "count(1)", 2);
        refused(ring, "carry(5, 2, 0)", INDEX);
        refused(ring, "carry(-1, 0, 1)", INDEX);
        refused(ring, "carry(0, 2, 1)", ARGUMENT);
        refused(ring, "carry(0, -1, 1)", ARGUMENT);
        refused(ring, "carry(0, 0, 0)", ARGUMENT);
        refused(ring, "carry(0, 0, 5)", ARGUMENT);
        refused(ring, "carry(0, 0, 1)", STATE);
        refused(ring, "carry(3, 0, 3)", STATE);
        refused(ring, "carry(2, 0, 1)", STATE);
        due(ring, "carry(3, 0, 2)", 1);
        stacks(ring, "4 abbb", "4 ", "4 ", "2 ", "2 ");
        due(ring, "player(2, 2)", 2);
    }

    private static void promise11Guards() {
        TowerRing ring = Checks.game("caps 3 3 3 3 3; stack 0 a; stack 1 bbb; stack 4 bab;");
        due(ring, "carry(0, 0, 1)", 0);
        stacks(ring, "3 ", "3 bba", "3 b", "3 ", "3 bab");
        due(ring, "carry(4, 0, 2)", 1);
        stacks(ring, "3 ", "3 bab", "3 bb", "3 ", "3 b");
        ring = Checks.game("caps 8 8 8 8 8; stack 0 aaaa; stack 4 abbbb; stack 3 bbb;");
        due(ring, "carry(0, 0, 4)", 4);
        stacks(ring, "8 ", "8 ", "8 ", "8 bbb", "8 aaaaa");
        due(ring, "carry(3, 0, 1)", 0);
        stacks(ring, "8 ", "8 ", "8 ", "8 bb", "8 aaaaab");
    }

    private static void promise11Splits() {
        TowerRing ring = Checks.game("caps 2 1 1 2 3; stack 0 ba; stack 1 a; stack 2 a; stack 4 abb;");
        due(ring, "carry(0, 0, 2)", 0);
        stacks(ring, "2 ", "1 a", "1 a", "2 ab", "3 abb");
        ring = Checks.game("caps 2 3 1 2 3; turn 2; stack 0 ba; stack 1 a; stack 2 a; stack 3 ab; stack 4 abb;");
        due(ring, "carry(4, 0, 2)", 1);
        stacks(ring, "2 ba", "3 bb", "1 a", "2 ab", "3 a");
        ring = Checks.game("caps 1 2 3 2 1; stack 4 a; stack 0 a; stack 1 ba; stack 2 aba; stack 3 bb;");
        due(ring, "carry(4, 0, 1)", 0);
        stacks(ring, "1 a", "2 aa", "3 bab", "2 ba", "1 b");
    }

    private static void promise11Period() {
        TowerRing ring = Checks.game("caps 1 2 3 1 2; period 2; stack 2 aab; stack 0 b; stack 4 aa;");
        due(ring, "carry(4, 0, 1)", 1);
        stacks(ring, "1 a", "2 ", "3 aab", "1 ", "2 a");
        due(ring, "carry(2, 1, 1)", 0);
        stacks(ring, "2 a", "1 b", "2 aa", "3 ", "1 a");
        due(ring, "count(1)", 1);
        due(ring, "carry(0, 0, 1)", 1);
        stacks(ring, "2 ", "1 a", "2 aa", "3 ", "1 a");
        ring = Checks.game("caps 3 1 2 1 2; period 1; turn 2; stack 0 aba; stack 2 bb; stack 4 b;");
        due(ring, "roll(2)", 2);
        stacks(ring, "2 ba", "3 a", "1 b", "2 b", "1 b");
    }

    private static void promise12Roll() {
        TowerRing ring = Checks.game("caps 4 3 3 3 3; stack 0 abba; stack 1 a; stack 2 bb;");
        refused(ring, "roll(1)", STATE);
        refused(ring, "roll(2)", STATE);
        refused(ring, "roll(3)", STATE);
        refused(ring, "roll(5)", INDEX);
        refused(ring, "roll(-1)", INDEX);
        due(ring, "roll(0)", 2);
        stacks(ring, "4 aabb", "3 a", "3 bb");
        due(ring, "count(1)", 2);
        due(ring, "count(2)", 1);
        due(ring, "roll(0)", 2);
        stacks(ring, "4 baab");
        ring = Checks.game("caps 3 1 1 1 2; period 1; stack 4 ba; stack 0 bab; stack 2 a;");
        due(ring, "roll(4)", 2);
        stacks(ring, "2 ba", "3 ba", "1 a", "1 ", "1 b");
    }

    private static void promise12RotatedAway() {
        TowerRing ring = Checks.game("caps 1 2 2 2 2; period 1; stack 1 ba; stack 0 b;");
        due(ring, "roll(1)", 2);
        stacks(ring, "2 b", "1 b", "2 a", "2 ", "2 ");
        ring = Checks.game("caps 1 2 4 2 2; period 1; stack 0 a; stack 1 bb; stack 2 baba;");
        due(ring, "roll(2)", 2);
        stacks(ring, "2 a", "1 b", "2 bb", "4 aba", "2 ");
    }

    private static void promise13Drop() {
        TowerRing ring = Checks.game("caps 2 1 3 3 3; reserve 2 1; stack 0 ba; stack 1 a; stack 2 b;");
        refused(ring, "drop(0)", STATE);
        refused(ring, "drop(1)", STATE);
        refused(ring, "drop(2)", STATE);
        refused(ring, "drop(5)", INDEX);
        refused(ring, "drop(-1)", INDEX);
        due(ring, "drop(3)", 1);
        stacks(ring, "2 ba", "1 a", "3 b", "3 a", "3 ");
        due(ring, "player(1, 1)", 1);
        due(ring, "drop(2)", 0);
        stacks(ring, "2 ba", "1 a", "3 bb");
        due(ring, "player(2, 1)", 0);
        due(ring, "drop(3)", 0);
        stacks(ring, "2 ba", "1 a", "3 bb", "3 aa");
        refused(ring, "drop(4)", STATE);
        due(ring, "count(2)", 3);
    }

    private static void promise14And15Moves() {
        TowerRing ring = Checks.game("caps 4 3 3 2 3; goal 3; reserve 2 1; stack 0 baa; stack 1 b; stack 2 abb; stack 4 a;");
        int[] codes = {1, 2, 3, 11, 12, 13, 401, 411, 2000, 3000, 3003, 3004};
        due(ring, "moves()", codes.length);
        for (int index = 0; index < codes.length; index++) {
            due(ring, "move(" + index + ")", codes[index]);
        }
        due(ring, "move(12)", INDEX);
        due(ring, "move(-1)", INDEX);
        due(ring, "move(" + LEAST + ")", INDEX);
        due(ring, "move(" + MOST + ")", INDEX);
        due(new TowerRing(), "moves()", 0);
        ring = Checks.game("caps 3 3 3 3 3; stack 0 a; stack 2 b;");
        goThere(ring);
        due(ring, "moves()", 1);
        due(ring, "move(0)", 301);
        due(ring, "move(1)", INDEX);
        ring = Checks.game("caps 3 3 3 3 3; goal 1; reserve 5 5; stack 0 a; stack 1 b; stack 2 b;");
        due(ring, "carry(0, 0, 1)", 1);
        due(ring, "moves()", 0);
        due(ring, "move(0)", INDEX);
    }

    private static void promise16Would() {
        TowerRing ring = Checks.game("caps 2 1 1 2 3; goal 1; period 1; stack 0 bb; stack 1 a; stack 2 a; stack 3 ab; stack 4 b;");
        String before = Checks.view(ring);
        due(ring, "would(0, 0, 2, 0)", 2);
        due(ring, "would(0, 1, 2, 0)", 3);
        due(ring, "would(0, 1, 1, 0)", 4);
        due(ring, "would(4, 0, 1, 0)", 0);
        due(ring, "would(0, 0, 2, 1)", 1);
        due(ring, "would(0, 0, 1, 1)", 1);
        due(ring, "would(0, 0, 1, 2)", 0);
        due(ring, "would(0, 1, 2, 1)", 0);
        due(ring, "would(0, 1, 2, 2)", 1);
        due(ring, "would(0, 0, 2, 2)", 2);
        due(ring, "would(0, 0, 2, 3)", 2);
        due(ring, "would(1, 0, 1, 1)", 0);
        due(ring, "would(1, 0, 1, 2)", 2);
        due(ring, "would(1, 0, 1, 3)", 1);
        due(ring, "would(3, 0, 2, 0)", 0);
        due(ring, "would(3, 0, 1, 2)", 0);
        due(ring, "would(5, 2, 5, 4)", INDEX);
        due(ring, "would(-1, 0, 1, 0)", INDEX);
        due(ring, "would(4, 0, 2, 4)", ARGUMENT);
        due(ring, "would(4, 0, 2, -1)", ARGUMENT);
        due(ring, "would(4, 2, 2, 0)", ARGUMENT);
        due(ring, "would(4, -1, 2, 0)", ARGUMENT);
        due(ring, "would(4, 0, 0, 0)", ARGUMENT);
        due(ring, "would(4, 0, 5, 0)", ARGUMENT);
        due(ring, "would(4, 0, 2, 0)", STATE);
        Checks.due("the game", Checks.view(ring), before);
        due(new TowerRing(), "would(0, 0, 1, 0)", STATE);
    }

    private static void promise17Threats() {
        TowerRing ring = Checks.game("caps 8 8 8 8 8 8 8 8; stack 0 bb; stack 4 aaaa; stack 2 aa; stack 7 aab; stack 1 bba;");
        due(ring, "threats(0)", 3);
        due(ring, "threats(1)", 2);
        due(ring, "threats(7)", 2);
        due(ring, "threats(2)", 2);
        due(ring, "threats(4)", 0);
        due(ring, "threats(3)", 0);
        due(ring, "threats(8)", INDEX);
        due(ring, "threats(-1)", INDEX);
        ring = Checks.game("caps 8 8 8 8 8; turn 2; goal 1; stack 0 b; stack 1 aaaa;");
        due(ring, "threats(0)", 2);
        due(ring, "threats(1)", 0);
    }

    private static void promise18Reach() {
        TowerRing ring = Checks.game("caps 8 8 8 8 8 8 8 8 8 8 8 8; stack 0 abbab; stack 6 b; stack 11 aa;");
        due(ring, "reach(0)", 2 + 4 + 8 + 16 + 256 + 512 + 1024 + 2048);
        due(ring, "reach(6)", 32 + 128);
        due(ring, "reach(11)", 1 + 2 + 1024 + 512);
        due(ring, "reach(3)", 0);
        due(ring, "reach(12)", INDEX);
        due(ring, "reach(-1)", INDEX);
        due(Checks.game("caps 8 8 8 8 8; stack 2 aaaa;"), "reach(2)", 27);
    }

    private static void promise19Result() {
        TowerRing ring = Checks.game("caps 4 4 4 4 4; goal 9; stack 0 a; stack 1 b; stack 2 bb; stack 4 aa;");
        due(ring, "result(1, 1)", 3 + 2 - 1);
        due(ring, "result(11, 1)", 1 - 2);
        due(ring, "result(402, 1)", 3 + 2 - 1);
        due(ring, "result(1, 2)", 3 - 6 + 1 - 1);
        due(ring, "result(402, 2)", 3 - 3 + 1 - 1);
        due(ring, "result(2004, 1)", 0);
        due(ring, "result(5, 1)", ARGUMENT);
        due(ring, "result(-1, 1)", ARGUMENT);
        due(ring, "result(1, 0)", ARGUMENT);
        due(ring, "result(101, 3)", ARGUMENT);
        due(ring, "result(101, 1)", STATE);
        due(ring, "result(2, 2)", STATE);
        due(ring, "setTurn(2)", 1);
        due(ring, "result(111, 1)", 3 + 2 - 1);
        ring = Checks.game("caps 4 4 4 4 4; goal 1; stack 0 a; stack 1 b; stack 2 bb; stack 4 aa;");
        due(ring, "result(1, 2)", 4);
        ring = Checks.game("caps 4 4 4 4 4; stack 0 a; stack 1 b;");
        due(ring, "result(1, 2)", 4);
        due(ring, "result(11, 2)", 0);
        ring = Checks.game("caps 4 4 4 4 4 4 4; stack 0 a; stack 3 aab;");
        due(ring, "carry(0, 1, 1)", 0);
        due(ring, "carry(3, 1, 1)", 0);
        due(ring, "result(601, 1)", 1);
        due(ring, "result(601, 2)", 1);
        due(ring, "answers(601)", 1);
        due(ring, "setTurn(1)", 1);
        due(ring, "result(601, 2)", 0);
        due(ring, "answers(601)", 2);
    }

    private static void promise20Best() {
        TowerRing ring = Checks.game("caps 4 4 4 4 4; goal 9; stack 0 a; stack 1 b; stack 2 bb; stack 4 aa;");
        due(ring, "best(1)", 412);
        due(ring, "best(0)", ARGUMENT);
        due(ring, "best(3)", ARGUMENT);
        due(new TowerRing(), "best(1)", ELEMENT);
        due(new TowerRing(), "best(2)", ELEMENT);
        due(new TowerRing(), "best(0)", ARGUMENT);
        ring = Checks.game("caps 4 4 4 4 4; stack 0 a; stack 2 b;");
        due(ring, "best(1)", 1);
        due(ring, "best(2)", 11);
        ring = Checks.game("caps 3 3 3 3 3 3; stack 0 a; stack 1 b; stack 2 b; stack 3 a;");
        due(ring, "best(1)", 1);
        due(ring, "result(1, 2)", 0);
        due(ring, "result(301, 2)", -4);
        due(ring, "best(2)", 1);
        ring = Checks.game("caps 3 3 3 3 3; stack 0 a; stack 2 b;");
        goThere(ring);
        due(ring, "best(1)", 301);
        due(ring, "best(2)", 301);
    }

    private static void promise21Answers() {
        TowerRing ring = Checks.game("caps 3 3 3 3 3; goal 2; stack 0 a; stack 2 b;");
        due(ring, "answers(1)", 2);
        due(ring, "answers(11)", 2);
        due(ring, "answers(5)", ARGUMENT);
        due(ring, "answers(2)", STATE);
        due(ring, "answers(201)", STATE);
        due(ring, "setTurn(2)", 1);
        due(ring, "answers(201)", 2);
        ring = Checks.game("caps 3 3 3 3 3; goal 1; reserve 0 3; stack 0 a; stack 1 b; stack 3 b;");
        due(ring, "answers(1)", 0);
        due(ring, "answers(11)", 3 * 2 - 2 + 4);
        due(ring, "count(2)", 0);
        ring = Checks.game("caps 3 3 3 3 3; stack 0 a; stack 2 b;");
        due(ring, "carry(0, 0, 1)", 0);
        due(ring, "carry(2, 0, 1)", 0);
        due(ring, "answers(111)", 1);
        due(ring, "answers(101)", 2);
    }

    private static void promise22SetTurn() {
        TowerRing ring = Checks.game("caps 3 3 3 3 3; stack 0 a; stack 2 b;");
        due(ring, "setTurn(2)", 1);
        due(ring, "count(1)", 2);
        due(ring, "count(2)", 0);
        due(ring, "setTurn(2)", 2);
        refused(ring, "setTurn(0)", ARGUMENT);
        refused(ring, "setTurn(3)", ARGUMENT);
        due(ring, "undo()", 2);
        due(ring, "undo()", 1);
        due(ring, "count(1)", 1);
        goThere(ring);
        due(ring, "setTurn(2)", 2);
        due(ring, "carry(3, 1, 1)", 0);
    }

    private static void promise23SetPeriod() {
        TowerRing ring = Checks.game("caps 3 3 3 3 1; period 4; stack 0 a; stack 2 b;");
        due(ring, "setPeriod(20)", 4);
        due(ring, "count(3)", 20);
        due(ring, "setPeriod(2)", 20);
        refused(ring, "setPeriod(21)", ARGUMENT);
        refused(ring, "setPeriod(-1)", ARGUMENT);
        due(ring, "carry(0, 0, 1)", 0);
        due(ring, "cell(4, 0)", 1);
        due(ring, "carry(2, 0, 1)", 0);
        due(ring, "cell(0, 0)", 1);
        due(ring, "cell(4, 0)", 3);
        due(ring, "setPeriod(0)", 2);
        due(ring, "carry(1, 0, 1)", 0);
        due(ring, "carry(3, 0, 1)", 0);
        due(ring, "cell(0, 0)", 1);
        due(ring, "setPeriod(5)", 0);
        due(ring, "carry(2, 0, 1)", 0);
        due(ring, "cell(1, 0)", 1);
        due(ring, "undo()", 7);
        due(ring, "undo()", 6);
        due(ring, "count(3)", 0);
    }

    private static void promise24RotateCaps() {
        TowerRing ring = Checks.game("caps 1 2 3 4 5; stack 0 a; stack 1 ba; stack 2 aba; stack 3 abab; stack 4 babab;");
        due(ring, "rotateCaps()", 5);
        stacks(ring, "5 ababa", "1 a", "2 ab", "3 bab", "4 baba");
        due(ring, "count(1)", 1);
        due(ring, "count(2)", 0);
        due(ring, "undo()", 1);
        stacks(ring, "1 a", "2 ba", "3 aba", "4 abab", "5 babab");
        ring = Checks.game("caps 3 1 2 2 2; stack 0 abb; stack 1 a; stack 2 ba;");
        due(ring, "rotateCaps()", 4);
        stacks(ring, "2 bb", "3 aa", "1 a", "2 b", "2 ");
        due(new TowerRing(), "rotateCaps()", 0);
    }

    private static void promise25And26WriteStack() {
        TowerRing ring = Checks.game("caps 8 1 2 3 4; stack 0 abbabbab; stack 1 b;");
        due(ring, "writtenByte(0)", INDEX);
        due(ring, "writeStack(0)", 10);
        String want = "8 abbabbab";
        for (int index = 0; index < want.length(); index++) {
            due(ring, "writtenByte(" + index + ")", want.charAt(index));
        }
        due(ring, "writtenByte(10)", INDEX);
        due(ring, "writtenByte(-1)", INDEX);
        due(ring, "writeStack(5)", INDEX);
        due(ring, "writeStack(-1)", INDEX);
        due(ring, "setTurn(2)", 1);
        due(ring, "undo()", 1);
        due(ring, "writtenByte(9)", 'b');
        due(ring, "writeStack(1)", 3);
        due(ring, "writtenByte(2)", 'b');
        due(ring, "writtenByte(3)", INDEX);
        due(ring, "writeStack(4)", 2);
        due(ring, "writtenByte(0)", '4');
        due(ring, "writtenByte(1)", ' ');
        due(ring, "writtenByte(2)", INDEX);
    }

    private static void promise27Undo() {
        TowerRing ring = new TowerRing();
        due(ring, "undo()", STATE);
        for (int period = 1; period <= 11; period++) {
            due(ring, "setPeriod(" + period + ")", period - 1);
        }
        for (int left = 7; left >= 4; left--) {
            due(ring, "undo()", left);
        }
        due(ring, "count(3)", 7);
        due(ring, "setTurn(2)", 1);
        due(ring, "setTurn(1)", 2);
        for (int left = 5; left >= 0; left--) {
            due(ring, "undo()", left);
        }
        due(ring, "count(3)", 3);
        refused(ring, "undo()", STATE);
        Checks.load(ring, "caps 1 2 3 4 5 6; reserve 4 4; stack 5 a; stack 4 b;");
        String loaded = Checks.view(ring);
        due(ring, "carry(5, 1, 1)", 1);
        due(ring, "undo()", 1);
        Checks.due("after undo of a carry", Checks.view(ring), loaded);
        due(ring, "drop(0)", 3);
        due(ring, "undo()", 1);
        Checks.due("after undo of a drop", Checks.view(ring), loaded);
        due(ring, "rotateCaps()", 0);
        due(ring, "undo()", 1);
        Checks.due("after undo of rotateCaps", Checks.view(ring), loaded);
        due(ring, "undo()", 0);
        due(ring, "count(0)", 5);
        Checks.fill(ring, "caps 2 2 2 2 2;");
        due(ring, "setTurn(2)", 1);
        due(ring, "undo()", 0);
        due(ring, "load(15)", 0);
        due(ring, "count(9)", 10);
    }

    private static void promise28And29Slots() {
        TowerRing ring = Checks.game("caps 4 4 4 4 4; period 3; goal 9; reserve 2 2; stack 0 a; stack 2 b;");
        goThere(ring);
        String saved = Checks.view(ring);
        due(ring, "save(1)", 2);
        due(ring, "save(2)", INDEX);
        due(ring, "save(-1)", INDEX);
        refused(ring, "restore(0)", STATE);
        refused(ring, "restore(2)", INDEX);
        refused(ring, "restore(-1)", INDEX);
        due(ring, "carry(3, 0, 1)", 0);
        due(ring, "setPeriod(7)", 3);
        due(ring, "drop(1)", 1);
        Checks.load(ring, "caps 1 1 1 1 1 1; stack 0 a;");
        due(ring, "restore(1)", 2);
        Checks.due("after restore", Checks.view(ring), saved);
        due(ring, "reason(311)", 5);
        due(ring, "restore(1)", 2);
        Checks.due("after restore again", Checks.view(ring), saved);
        due(ring, "undo()", 7);
        due(ring, "undo()", 6);
        due(ring, "count(0)", 6);
        due(ring, "save(1)", 1);
        due(ring, "save(0)", 1);
        due(ring, "undo()", 5);
        due(ring, "restore(1)", 1);
        due(ring, "count(0)", 6);
        due(ring, "undo()", 5);
        due(ring, "count(3)", 7);
    }

    private static void promise30Differing() {
        TowerRing ring = Checks.game("caps 4 4 4 4 4; reserve 2 2; stack 0 a; stack 2 b; stack 4 ba;");
        due(ring, "differing(0)", -1);
        due(ring, "differing(2)", INDEX);
        due(ring, "differing(-1)", INDEX);
        due(ring, "save(0)", 4);
        due(ring, "differing(0)", 0);
        due(ring, "differing(1)", -1);
        due(ring, "carry(0, 0, 1)", 0);
        due(ring, "differing(0)", 2);
        due(ring, "roll(2)", STATE);
        due(ring, "drop(2)", 1);
        due(ring, "differing(0)", 3);
        due(ring, "roll(4)", 2);
        due(ring, "differing(0)", 4);
        Checks.load(ring, "caps 1 1 1 1 2; stack 0 a; stack 2 b; stack 4 bb;");
        due(ring, "differing(0)", 1);
        Checks.load(ring, "caps 4 4 4 4 4 4; stack 0 a; stack 2 b; stack 4 ba;");
        due(ring, "differing(0)", -1);
        due(ring, "undo()", 5);
        due(ring, "differing(0)", 1);
    }

    public static void main(String[] args) {
        Checks.begin("promise 1");
        promise1NewObject();
        Checks.begin("promise 2");
        promise2Append();
        Checks.begin("promise 3");
        promise3Load();
        promise3Errors();
        Checks.begin("promise 4");
        promise4ErrorPosition();
        Checks.begin("promise 5");
        promise5Count();
        Checks.begin("promise 6");
        promise6Cell();
        Checks.begin("promise 7");
        promise7Piece();
        Checks.begin("promise 8");
        promise8Player();
        Checks.begin("promise 9");
        promise9Highest();
        Checks.begin("promise 10");
        promise10Reason();
        promise10Repetition();
        promise10TurnAndCaps();
        promise10TwentyPositions();
        promise10OlderPositions();
        promise10OrderOfPieces();
        promise10ChangedPlaces();
        promise10Heights();
        promise10Reserves();
        promise10AnewBehindMoves();
        Checks.begin("promise 11");
        promise11Carry();
        promise11Guards();
        promise11Splits();
        promise11Period();
        Checks.begin("promise 12");
        promise12Roll();
        promise12RotatedAway();
        Checks.begin("promise 13");
        promise13Drop();
        Checks.begin("promises 14 and 15");
        promise14And15Moves();
        Checks.begin("promise 16");
        promise16Would();
        Checks.begin("promise 17");
        promise17Threats();
        Checks.begin("promise 18");
        promise18Reach();
        Checks.begin("promise 19");
        promise19Result();
        Checks.begin("promise 20");
        promise20Best();
        Checks.begin("promise 21");
        promise21Answers();
        Checks.begin("promise 22");
        promise22SetTurn();
        Checks.begin("promise 23");
        promise23SetPeriod();
        Checks.begin("promise 24");
        promise24RotateCaps();
        Checks.begin("promises 25 and 26");
        promise25And26WriteStack();
        Checks.begin("promise 27");
        promise27Undo();
        Checks.begin("promises 28 and 29");
        promise28And29Slots();
        Checks.begin("promise 30");
        promise30Differing();
        Checks.end();
    }
}
