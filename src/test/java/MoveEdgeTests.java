import java.util.function.Supplier;

/** The boundaries of moves (section 3) and of promises 10 to 16. */
public final class MoveEdgeTests {
    private static final String CAPS = "caps 3 3 3 3 3;";
    /** Numbers that are no cell, though some of them would wrap around or fall into the codes of other moves. */
    private static final String[] NO_CELLS = {"-1", "5", "12", "1000", "-1000", "-2000", "-3000", "42949673", "21474837",
        String.valueOf(Play.LEAST), String.valueOf(Play.LEAST + 2000), String.valueOf(Play.MOST),
        String.valueOf(Play.MOST - 1999), String.valueOf(Play.MOST - 2999)};

    private MoveEdgeTests() {
    }

    private static String stack(int cell, String letters) {
        return RingEdgeTests.stack(cell, letters);
    }

    private static String caps(int cells, int cap) {
        return RingEdgeTests.caps(cells, cap);
    }

    /** Player 1 has won by a steal; then it is the turn of player 2. */
    private static Play won() {
        return Play.of("caps 3 3 3 3 3 3; goal 1; reserve 1 0; stack 0 a; stack 1 b; stack 2 b; stack 3 aa; stack 4 bbb;")
                .due("carry(0, 0, 1)", 1);
    }

    /** Three moves of two lone pieces: the fourth one, 311, would lead to the position behind the load. */
    private static Play repeating() {
        return Play.of(CAPS + "stack 0 a; stack 2 b;").due("carry(0, 0, 1)", 0).due("carry(2, 0, 1)", 0)
                .due("carry(1, 1, 1)", 0);
    }

    private static Play rolling() {
        return Play.of(CAPS + "stack 0 aa; stack 1 bb;").due("roll(0)", 1);
    }

    private static void codes() {
        Play.edge("10: which codes there are, for 5 to 12 cells", () -> {
            for (int cells = 5; cells <= 12; cells++) {
                Play play = Play.of(caps(cells, 1));
                for (int code = -150; code <= 4250; code++) {
                    boolean isCarry = code >= 0 && code < 100 * cells && code % 100 / 10 <= 1 && code % 10 >= 1 && code % 10 <= 4;
                    boolean isRoll = code >= 2000 && code < 2000 + cells;
                    boolean isDrop = code >= 3000 && code < 3000 + cells;
                    play.due("reason(" + code + ")", isCarry || isRoll ? "2" : isDrop ? "4" : Play.ARGUMENT);
                }
            }
        });
        Play.edge("10: numbers at the ends of int are no codes", () -> Play.refused(MoveEdgeTests::rolling, Play.ARGUMENT,
                "reason(" + Play.LEAST + ")", "reason(" + Play.MOST + ")", "reason(" + (Play.LEAST + 1) + ")",
                "reason(-2147481647)", "reason(-2001)", "reason(-1)", "reason(0)", "reason(65537)", "reason(16777217)"));
    }

    private static void reasons() {
        Play.edge("10: reason 1, a player has as many prisoners as the goal tells", () -> {
            Play.of(caps(5, 3) + "goal 2; stack 0 a; stack 1 b; stack 2 b;").due("carry(0, 0, 1)", 1).due("reason(201)", 0)
                    .due("setTurn(1)", 2).due("carry(1, 0, 1)", 1).due("setTurn(1)", 2).due("reason(201)", 1);
            Play.of(caps(5, 3) + "goal 1; stack 0 aa; stack 2 bb;").due("carry(0, 0, 2)", 2).due("reason(2001)", 1);
            Play.of(caps(5, 3) + "goal 3; stack 0 aa; stack 2 bb; stack 3 b;").due("carry(0, 0, 2)", 2).due("reason(301)", 0);
        });
        Play.edge("10: reason 1, the goal of 40", MoveEdgeTests::fortyPrisoners);
        Play.edge("10: reason 1 goes before 2, 3 and 4, for either player", () -> {
            String[] codes = {"reason(1)", "reason(11)", "reason(101)", "reason(201)", "reason(204)", "reason(504)",
                "reason(2000)", "reason(2003)", "reason(2004)", "reason(2005)", "reason(3000)", "reason(3003)",
                "reason(3004)", "reason(3005)"};
            won().due("count(1)", 2).all(1, codes).due("setTurn(1)", 2).all(1, codes);
        });
        Play.edge("10: reason 2, the stack is not controlled by the player", () -> {
            Play play = Play.of(CAPS + "reserve 1 1; stack 0 bba; stack 1 aab; stack 2 ab;");
            play.all(0, "reason(1)", "reason(3)", "reason(2000)").all(2, "reason(101)", "reason(103)", "reason(2001)",
                    "reason(301)", "reason(2003)", "reason(3002)").due("setTurn(2)", 1);
            play.all(2, "reason(1)", "reason(3)", "reason(2000)", "reason(301)", "reason(2003)")
                    .all(0, "reason(101)", "reason(103)", "reason(2001)", "reason(3002)");
        });
        Play.edge("10: reason 2 goes before 3", () -> Play.of(CAPS + "reserve 9 9; stack 1 b; stack 2 bbb;")
                .all(2, "reason(102)", "reason(204)", "reason(1)", "reason(4)", "reason(2001)", "reason(2000)",
                "reason(3002)"));
        Play.edge("10: reason 2 goes before 4, and a drop is not refused by it on an empty cell", () -> Play.of(CAPS
                + "stack 1 b; stack 2 bbb;").due("reason(3001)", 2).due("reason(3002)", 2).due("reason(3000)", 4)
                .load(CAPS + "reserve 1 0; stack 1 b;", 1).due("reason(3001)", 2).due("reason(3000)", 0));
        Play.edge("10: reason 3, fewer than k pieces", () -> {
            for (int height = 1; height <= 8; height++) {
                for (int k = 1; k <= 4; k++) {
                    Play.of(caps(5, 8) + stack(4, "a".repeat(height))).due("reason(" + (400 + k) + ")", height < k ? 3 : 0)
                            .due("reason(" + (410 + k) + ")", height < k ? 3 : 0);
                }
            }
        });
        Play.edge("10: reason 3, a roll of fewer than two pieces", () -> {
            for (int height = 1; height <= 8; height++) {
                Play.of(caps(5, 8) + stack(4, "b".repeat(height - 1) + "a")).due("reason(2004)", height < 2 ? 3 : 0);
            }
        });
        Play.edge("10: reason 3, a drop on a stack that is not lower than the cap", () -> {
            for (int cap = 1; cap <= 8; cap++) {
                for (int height = 0; height <= cap; height++) {
                    Play.of(caps(5, cap) + "reserve 1 0;" + stack(4, "a".repeat(height)))
                            .due("reason(3004)", height == cap ? 3 : 0);
                }
            }
        });
        Play.edge("10: reason 3 goes before 4", () -> Play.of(CAPS + "reserve 0 9; stack 1 aaa; stack 2 aa;")
                .due("reason(3001)", 3).due("reason(3002)", 4).due("reason(3003)", 4));
        Play.edge("10: reason 4, the reserve of the player whose turn it is", () -> Play.of(CAPS + "reserve 0 1; stack 0 a;")
                .due("reason(3000)", 4).due("reason(3001)", 4).due("setTurn(2)", 1).due("reason(3001)", 0)
                .due("reason(3000)", 2).load(CAPS + "reserve 20 0;", 0).due("reason(3001)", 0).due("setTurn(2)", 1)
                .due("reason(3001)", 4));
        Play.edge("10: reason 5, the position behind it is one of the latest 20", () -> {
            repeating().due("reason(311)", 5).due("reason(301)", 0).due("reason(101)", 2).due("reason(312)", 3);
            rolling().due("reason(2001)", 5).due("reason(101)", 0);
        });
    }

    /** Stacks of four go round eleven cells in steps of four and steal ten guards of four. */
    private static void fortyPrisoners() {
        StringBuilder text = new StringBuilder(caps(11, 8)).append("goal 40; stack 0 aaaa;");
        for (int cell = 1; cell < 11; cell++) {
            text.append("stack").append(cell).append("bbbb;");
        }
        Play play = Play.of(text.toString());
        int cell = 0;
        for (int stolen = 4; stolen <= 40; stolen += 4) {
            play.due("count(5)", 0).due("reason(" + (100 * cell + 4) + ")", 0).due("carry(" + cell + ", 0, 4)", 4)
                    .due("player(1, 2)", stolen).due("setTurn(1)", 2);
            cell = (cell + 4) % 11;
        }
        play.due("count(5)", 1).due("reason(" + (100 * cell + 4) + ")", 1).due("moves()", 0).due("player(1, 5)", 121);
    }

    private static void positions() {
        Play.edge("section 3: a position 2 to 20 moves back counts, one 22 or 24 moves back does not", () -> {
            for (int cells = 5; cells <= 12; cells++) {
                Play play = Play.of(caps(cells, 3) + "stack 0 a; stack 2 b;");
                for (int step = 0; step < cells; step++) {
                    play.due("carry(" + step + ", 0, 1)", 0);
                    int last = (step + 2) % cells;
                    play.due("reason(" + (100 * last + 1) + ")", step == cells - 1 && cells <= 10 ? 5 : 0);
                    if (step < cells - 1) {
                        play.due("carry(" + last + ", 0, 1)", 0);
                    }
                }
                String lastOne = "carry(1, 0, 1)";
                play.due(lastOne, cells <= 10 ? Play.STATE : "0");
            }
        });
        Play.edge("section 3: a position 4 moves back, wherever the stacks stand", () -> {
            for (int cells = 5; cells <= 12; cells++) {
                for (int start = 0; start < cells; start++) {
                    int other = (start + 2) % cells;
                    Play play = Play.of(caps(cells, 3) + stack(start, "a") + stack(other, "b"));
                    play.due("carry(" + start + ", 0, 1)", 0).due("carry(" + other + ", 0, 1)", 0)
                            .due("carry(" + (start + 1) % cells + ", 1, 1)", 0);
                    int now = (other + 1) % cells;
                    play.due("reason(" + (100 * now + 11) + ")", 5).due("reason(" + (100 * now + 1) + ")", 0);
                }
            }
        });
        Play.edge("section 3: the oldest of 20 positions on twelve cells", MoveEdgeTests::oldestOfTwenty);
        Play.edge("section 3: the position behind the latest load, setTurn, setPeriod or rotateCaps counts", () -> {
            String[] calls = {"setTurn(1)", "setPeriod(0)", "rotateCaps()"};
            Play.of(CAPS + "stack 0 aa; stack 1 bb;").due("roll(0)", 1).due("reason(2001)", 5);
            for (String call : calls) {
                Play play = Play.of(CAPS + "stack 0 aa; stack 1 bb;");
                play.answer(call);
                play.due("roll(0)", 1).due("reason(2001)", 5);
            }
        });
        Play.edge("section 3: no position before the latest load, setTurn, setPeriod or rotateCaps counts", () -> {
            rolling().due("setTurn(2)", 2).due("reason(2001)", 0);
            rolling().due("setPeriod(0)", 0).due("reason(2001)", 0);
            rolling().due("rotateCaps()", 0).due("reason(2001)", 0);
            rolling().load(CAPS + "turn 2; stack 0 aa; stack 1 bb;", 4).due("reason(2001)", 0);
            repeating().due("setTurn(2)", 2).due("reason(311)", 0);
            repeating().due("setPeriod(20)", 0).due("reason(311)", 0);
            repeating().due("rotateCaps()", 0).due("reason(311)", 0);
        });
        Play.edge("section 3: a text with an error and a refused call leave the positions", () -> {
            rolling().load("caps", Play.SYNTAX).due("setTurn(3)", Play.ARGUMENT).due("setPeriod(21)", Play.ARGUMENT)
                    .due("roll(0)", Play.STATE).due("reason(2001)", 5);
        });
        Play.edge("section 3: the order of the pieces is part of a position", () -> Play.of(CAPS + "stack 0 ba; stack 1 bb;")
                .due("roll(0)", 2).due("reason(2001)", 0));
        Play.edge("section 3: the caps are part of a position", () -> {
            Play.of("caps 3 3 3 3 2; period 1; stack 0 aa; stack 1 bb;").due("roll(0)", 1).due("reason(2001)", 0);
            Play.of("caps 3 3 3 3 3; period 1; stack 0 aa; stack 1 bb;").due("roll(0)", 1).due("reason(2001)", 5);
        });
        Play.edge("section 3: both reserves are part of a position", () -> {
            Play one = Play.of(CAPS + "reserve 1 0; stack 0 aa; stack 2 b;");
            one.due("drop(3)", 0).due("carry(2, 0, 1)", 1).due("roll(0)", 1).due("reason(311)", 0);
            Play two = Play.of(CAPS + "reserve 0 1; turn 2; stack 0 bb; stack 2 a;");
            two.due("drop(3)", 0).due("carry(2, 0, 1)", 1).due("roll(0)", 2).due("reason(311)", 0);
            Play none = Play.of(CAPS + "reserve 1 1; stack 0 aa; stack 2 b;");
            none.due("roll(0)", 1).due("carry(2, 0, 1)", 0).due("roll(0)", 1).due("reason(311)", 5);
        });
        Play.edge("section 3: the turn is part of a position", () -> Play.of(CAPS + "stack 0 aa; stack 1 bb;")
                .due("reason(2000)", 0).due("roll(0)", 1));
        Play.edge("section 3: the cell of a stack is part of a position", () -> Play.of(CAPS + "stack 0 a; stack 2 b;")
                .due("carry(0, 0, 1)", 0).due("carry(2, 0, 1)", 0).due("carry(1, 0, 1)", 0).due("reason(301)", 0));
    }

    /** Two lone pieces go on and back, each in its own way, and stand where they began with the 20th move. */
    private static void oldestOfTwenty() {
        int[] wayOfA = {0, 1, 2, 3, 2, 1, 0, 11, 10, 11, 0};
        int[] wayOfB = {6, 7, 8, 9, 10, 11, 10, 9, 8, 7, 6};
        Play play = Play.of(caps(12, 3) + "goal 40; stack 0 a; stack 6 b;");
        for (int step = 0; step < 10; step++) {
            int directionOfA = (wayOfA[step] + 1) % 12 == wayOfA[step + 1] ? 0 : 1;
            int directionOfB = step < 5 ? 0 : 1;
            play.due("carry(" + wayOfA[step] + ", " + directionOfA + ", 1)", 0);
            play.due("reason(" + (100 * wayOfB[step] + 10 * directionOfB + 1) + ")", step < 9 ? 0 : 5);
            play.due("carry(" + wayOfB[step] + ", " + directionOfB + ", 1)", step < 9 ? "0" : Play.STATE);
        }
        play.due("count(2)", 19).due("carry(7, 0, 1)", 0).due("carry(0, 0, 1)", 0).due("reason(811)", 5);
    }

    private static void carries() {
        Play.edge("11: 1 to 4 pieces, brought as many cells on, in their order", () -> {
            String letters = "abbababa";
            for (int k = 1; k <= 4; k++) {
                Play.of(caps(9, 8) + stack(0, letters) + stack(k, "ba")).due("carry(0, 0, " + k + ")", 0)
                        .due("cell(0, 1)", 8 - k).due("cell(" + k + ", 1)", 2 + k);
                Play play = Play.of(caps(9, 8) + stack(8, letters)).due("carry(8, 1, " + k + ")", 0);
                Checks.due("what stays", Checks.stack(play.ring, 8), "8 " + letters.substring(0, 8 - k));
                Checks.due("what is carried", Checks.stack(play.ring, 8 - k), "8 " + letters.substring(8 - k));
            }
        });
        Play.edge("11: all pieces of a stack", () -> Play.of(CAPS + "stack 0 bba; stack 3 b;").due("carry(0, 0, 3)", 1)
                .stacks("3 ", "3 ", "3 ", "3 bba").due("cell(0, 2)", 0));
        Play.edge("11: a guard of at most k is stolen, one of k + 1 is not", () -> {
            for (int k = 1; k <= 4; k++) {
                for (int guard = 1; guard <= 5; guard++) {
                    for (int direction = 0; direction <= 1; direction++) {
                        steal(k, guard, direction);
                    }
                }
            }
        });
        Play.edge("11: the guard alone is stolen, what lies below stays", () -> Play.of(caps(5, 8)
                + "stack 0 aaaa; stack 4 bbabb;").due("carry(0, 0, 4)", 2).stacks("8 ", "8 ", "8 ", "8 ", "8 bbaaaaa"));
        Play.edge("11: nothing is stolen from an own stack or an empty cell", () -> Play.of(caps(5, 8)
                + "stack 0 aaa; stack 1 bba; stack 3 b;").due("carry(0, 0, 1)", 0).due("setTurn(1)", 2)
                .due("carry(0, 1, 1)", 0).due("player(1, 2)", 0).stacks("8 a", "8 bbaa", "8 ", "8 b", "8 a"));
        Play.edge("11: the exceptions in their order", () -> {
            Play play = Play.of(CAPS + "stack 0 ab;");
            play.all(Play.INDEX, "carry(5, 2, 5)", "carry(-1, 0, 1)", "carry(5, 0, 1)");
            play.all(Play.ARGUMENT, "carry(0, 2, 1)", "carry(1, 0, 5)", "carry(1, -1, 0)");
            play.all(Play.STATE, "carry(0, 0, 1)", "carry(1, 1, 4)");
        });
        Play.edge("11: a cell that does not exist", () -> {
            for (String cell : NO_CELLS) {
                Play.refused(() -> repeating().due("setTurn(1)", 2), Play.INDEX, "carry(" + cell + ", 0, 1)",
                        "carry(" + cell + ", 1, 4)");
            }
        });
        Play.edge("11: direction is 0 or 1", () -> Play.refused(() -> Play.of(CAPS + "stack 0 aaa;"), Play.ARGUMENT,
                "carry(0, -1, 1)", "carry(0, 2, 1)", "carry(0, 10, 1)", "carry(0, " + Play.LEAST + ", 1)",
                "carry(0, " + Play.MOST + ", 1)"));
        Play.edge("11: k is 1 to 4", () -> Play.refused(() -> Play.of(caps(5, 8) + "stack 0 aaaaaaaa;"), Play.ARGUMENT,
                "carry(0, 0, 0)", "carry(0, 0, 5)", "carry(0, 0, -1)", "carry(0, 1, 11)", "carry(0, 0, " + Play.LEAST + ")",
                "carry(0, 0, " + Play.MOST + ")"));
        Play.edge("11: a move that is refused, for each reason", () -> {
            Play.refused(MoveEdgeTests::won, Play.STATE, "carry(2, 0, 1)", "carry(0, 0, 1)");
            Play.refused(() -> Play.of(CAPS + "stack 0 ab; stack 1 ba;"), Play.STATE, "carry(0, 0, 1)", "carry(2, 0, 1)",
                    "carry(1, 0, 3)", "carry(1, 1, 4)");
            Play.refused(MoveEdgeTests::repeating, Play.STATE, "carry(3, 1, 1)");
        });
    }

    private static void steal(int k, int guard, int direction) {
        int target = direction == 0 ? k : 9 - k;
        int stolen = guard <= k ? guard : 0;
        String call = "carry(0, " + direction + ", " + k + ")";
        Play one = Play.of(caps(9, 8) + "goal 9; stack 0 aaaa;" + stack(target, "a" + "b".repeat(guard)));
        one.due(call, stolen).due("player(1, 2)", stolen).due("player(2, 2)", 0).due("count(6)", 5 + guard - stolen);
        one.due("cell(" + target + ", 3)", stolen > 0 ? k + 1 : k);
        Play two = Play.of(caps(9, 8) + "goal 9; turn 2; stack 0 bbbb;" + stack(target, "b" + "a".repeat(guard)));
        two.due(call, stolen).due("player(2, 2)", stolen).due("player(1, 2)", 0).due("count(6)", 5 + guard - stolen);
        two.due("cell(" + target + ", 3)", stolen > 0 ? k + 1 : k);
    }

    private static void rolls() {
        Play.edge("12: the uppermost piece becomes the lowest one, of 2 to 8 pieces", () -> {
            String letters = "babbaaba";
            for (int height = 2; height <= 8; height++) {
                String below = letters.substring(8 - height, 7);
                Play play = Play.of(caps(5, 8) + stack(4, below + "a"));
                play.due("roll(4)", below.endsWith("a") ? 1 : 2).stacks("8 ", "8 ", "8 ", "8 ", "8 a" + below);
                play = Play.of(caps(12, 8) + "turn 2;" + stack(11, below + "b"));
                play.due("roll(11)", below.endsWith("a") ? 1 : 2);
                Checks.due("the stack", Checks.stack(play.ring, 11), "8 b" + below);
            }
        });
        Play.edge("12: the player who controls the cell behind the rotating of caps", () -> {
            Play.of("caps 3 1 1 1 2; period 1; stack 4 ba; stack 0 bab;").due("roll(4)", 2).stacks("2 ba", "3 ba", "1 ", "1 ", "1 b");
            Play.of("caps 1 2 2 2 2; turn 2; period 1; stack 0 b; stack 1 ab; stack 2 a;").due("roll(1)", 1)
                    .stacks("2 b", "1 a", "2 ab", "2 ", "2 ");
            Play.of("caps 2 2 2 1 2; period 1; stack 2 bb; stack 3 a; stack 1 ba; stack 4 aa;")
                    .due("roll(4)", 1).stacks("2 a", "2 ba", "2 bb", "2 a", "1 a");
        });
        Play.edge("12: a piece that a split brings controls the cell behind the move", () -> Play.of("caps 1 2 4 2 2;"
                + "period 1; stack 0 a; stack 1 bb; stack 2 baba;").due("roll(2)", 2).stacks("2 a", "1 b", "2 bb", "4 aba", "2 "));
        Play.edge("12: a cell that does not exist", () -> {
            for (String cell : NO_CELLS) {
                Play.refused(MoveEdgeTests::rolling, Play.INDEX, "roll(" + cell + ")");
            }
        });
        Play.edge("12: a move that is refused, for each reason", () -> {
            Play.refused(MoveEdgeTests::won, Play.STATE, "roll(3)", "roll(4)", "roll(1)", "roll(0)");
            Play.refused(() -> Play.of(CAPS + "stack 0 ab; stack 1 a;"), Play.STATE, "roll(0)", "roll(1)", "roll(2)");
            Play.refused(MoveEdgeTests::rolling, Play.STATE, "roll(1)");
        });
    }

    private static void drops() {
        Play.edge("13: on top of an own stack, up to the cap, and on an empty cell", () -> {
            for (int cap = 1; cap <= 8; cap++) {
                for (int height = 0; height < cap; height++) {
                    String below = height == 0 ? "" : "b".repeat(height - 1) + "a";
                    Play play = Play.of(caps(5, cap) + "reserve 7 0;" + stack(4, below)).due("drop(4)", 6);
                    Checks.due("the stack", Checks.stack(play.ring, 4), cap + " " + below + "a");
                }
                Play.of(caps(5, cap) + "reserve 7 0;" + stack(4, "a".repeat(cap))).due("drop(4)", Play.STATE);
            }
        });
        Play.edge("13: what is left of the reserve, from 20 down to 0", MoveEdgeTests::wholeReserves);
        Play.edge("13: a cell that does not exist", () -> {
            for (String cell : NO_CELLS) {
                Play.refused(() -> Play.of(CAPS + "reserve 5 5; stack 0 aa;"), Play.INDEX, "drop(" + cell + ")");
            }
            Play.of(caps(12, 1) + "reserve 1 1;").due("drop(12)", Play.INDEX).due("drop(11)", 0).due("drop(0)", 0);
        });
        Play.edge("13: a move that is refused, for each reason", () -> {
            Play.refused(() -> won().due("setTurn(1)", 2), Play.STATE, "drop(0)", "drop(3)");
            Play.refused(() -> Play.of(CAPS + "reserve 1 1; stack 0 ab; stack 1 aaa;"), Play.STATE, "drop(0)", "drop(1)");
            Play.refused(() -> Play.of(CAPS + "reserve 0 1; stack 0 a;"), Play.STATE, "drop(0)", "drop(2)");
        });
    }

    private static void wholeReserves() {
        Play play = Play.of(caps(12, 8) + "reserve 20 20;");
        for (int made = 0; made < 20; made++) {
            play.due("player(1, 1)", 20 - made).due("drop(" + made / 8 + ")", 19 - made).due("player(2, 1)", 20 - made)
                    .due("drop(" + (6 + made / 8) + ")", 19 - made);
        }
        play.due("reason(3002)", 4).due("drop(11)", Play.STATE).due("player(1, 0)", 20).due("player(2, 0)", 20)
                .due("count(2)", 40).due("setTurn(2)", 1).due("reason(3011)", 4);
    }

    private static void periods() {
        Play.edge("section 3: with the period 0 the caps never rotate", () -> rotatesAt(0, 40));
        Play.edge("section 3: the period divides the number of moves, 1 to 20", () -> {
            for (int period = 1; period <= 20; period++) {
                rotatesAt(period, 40);
            }
        });
        Play.edge("section 3: all moves since the load count, those before setPeriod too", () -> {
            Play play = Play.of("caps 3 3 3 3 1; stack 0 a; stack 2 b;").due("carry(0, 0, 1)", 0).due("setPeriod(2)", 0);
            play.due("cell(4, 0)", 1).due("carry(2, 0, 1)", 0).due("cell(4, 0)", 3).due("cell(0, 0)", 1);
            play.due("setPeriod(3)", 2).due("carry(1, 0, 1)", 0).due("cell(0, 0)", 3).due("cell(1, 0)", 1);
        });
        Play.edge("section 3: each cell gets the cap of the cell before it, cell 0 that of the last one", () -> {
            Play.of("caps 1 2 3 4 5; period 1; stack 1 aa;").due("roll(1)", 1).stacks("5 ", "1 a", "2 a", "3 ", "4 ");
            Play.of("caps 1 2 3 4 5 6 7 8 1 2 3 4; period 1; stack 11 aa;").due("roll(11)", 1).stacks("4 ", "1 ", "2 ",
                    "3 ", "4 ", "5 ", "6 ", "7 ", "8 ", "1 ", "2 ", "3 aa");
        });
        Play.edge("section 3: each of the three kinds of moves rotates, and ends the turn", () -> {
            String text = "caps 3 3 3 3 2; period 1; reserve 1 0; stack 0 aa;";
            Play.of(text).due("carry(0, 0, 1)", 0).due("cell(0, 0)", 2).due("count(1)", 2).due("count(2)", 1);
            Play.of(text).due("roll(0)", 1).due("cell(0, 0)", 2).due("count(1)", 2).due("count(2)", 1);
            Play.of(text).due("drop(2)", 0).due("cell(0, 0)", 2).due("count(1)", 2).due("count(2)", 1);
            Play.of(text.replace("aa", "bb")).due("setTurn(2)", 1).due("roll(0)", 2).due("count(1)", 1);
        });
        Play.edge("section 3: all cells are settled behind the rotating, the last one too", () -> {
            for (int cells = 5; cells <= 12; cells++) {
                for (int high = 0; high < cells; high++) {
                    StringBuilder text = new StringBuilder("caps");
                    String[] want = new String[cells];
                    for (int cell = 0; cell < cells; cell++) {
                        text.append(cell == high ? " 2" : " 1");
                        want[cell] = "1 ";
                    }
                    want[high] = "1 a";
                    want[(high + 1) % cells] = "2 b";
                    Play.of(text + "; period 1; turn 2;" + stack(high, "ab")).due("roll(" + high + ")", 1).stacks(want);
                }
            }
        });
        Play.edge("section 3: the carry is settled before the caps rotate", () -> Play.of("caps 8 1 2 8 8; period 1;"
                + "stack 0 a; stack 1 b; stack 2 bb;").due("carry(0, 0, 1)", 1).stacks("8 ", "8 a", "1 b", "2 b", "8 "));
    }

    /** The cap 7 goes one cell on whenever the caps rotate; the drops stay away from it. */
    private static void rotatesAt(int period, int moves) {
        Play play = Play.of("caps 8 8 8 7 8 8 8 8 8 8 8 8; reserve 20 20; period " + period + ";");
        int place = 3;
        for (int made = 1; made <= moves; made++) {
            int cell = free(play, place);
            play.due("drop(" + cell + ")", 20 - (made + 1) / 2);
            if (period > 0 && made % period == 0) {
                place = (place + 1) % 12;
            }
            play.due("cell(" + place + ", 0)", 7).due("cell(" + (place + 11) % 12 + ", 0)", 8)
                    .due("cell(" + (place + 1) % 12 + ", 0)", 8);
        }
    }

    /** A cell on which the player can drop, with low stacks so that nothing is ever split. */
    private static int free(Play play, int place) {
        int turn = play.answer("count(1)");
        for (int step = 0; step < 12; step++) {
            int cell = (place + 6 + step) % 12;
            int owner = play.answer("cell(" + cell + ", 2)");
            if (owner != 3 - turn && play.answer("cell(" + cell + ", 1)") < 7) {
                return cell;
            }
        }
        return -1;
    }

    private static void moves() {
        Play.edge("14: no move at all", () -> {
            Play.fresh().due("moves()", 0).due("move(0)", Play.INDEX);
            won().due("moves()", 0).due("move(0)", Play.INDEX);
            Play.of(caps(12, 8) + "stack 0 b;").due("moves()", 0).due("setTurn(2)", 1).due("moves()", 2);
        });
        Play.edge("14: 120 moves of twelve cells, 50 of five", () -> {
            Supplier<Play> most = () -> stacksOfFour(12);
            most.get().due("moves()", 120).due("move(0)", 1).due("move(4)", 11).due("move(7)", 14).due("move(8)", 101)
                    .due("move(95)", 1114).due("move(96)", 2000).due("move(107)", 2011).due("move(108)", 3000)
                    .due("move(119)", 3011).due("move(120)", Play.INDEX);
            stacksOfFour(5).due("moves()", 50).due("move(39)", 414).due("move(40)", 2000).due("move(49)", 3004)
                    .due("move(50)", Play.INDEX);
        });
        Play.edge("14: refused moves are not counted, for each reason", () -> {
            Play.of(CAPS + "reserve 1 0; stack 0 aaa; stack 1 a; stack 2 b;").due("moves()", 6 + 2 + 1 + 3)
                    .due("setTurn(2)", 1).due("moves()", 2);
            repeating().due("moves()", 1).due("move(0)", 301).due("move(1)", Play.INDEX);
            rolling().due("moves()", 4).due("move(0)", 101).due("move(3)", 112).due("move(4)", Play.INDEX);
        });
        Play.edge("15: the moves in the order of their codes, each one not refused", () -> {
            Play play = Play.of("caps 4 3 3 2 3; goal 3; reserve 2 1; stack 0 baa; stack 1 b; stack 2 abb; stack 4 a;");
            int index = 0;
            for (int code = 0; code < 3100; code++) {
                String reason = Checks.callWritten(play.ring, "reason(" + code + ")");
                if (reason.equals("0")) {
                    play.due("move(" + index + ")", code);
                    index++;
                }
            }
            play.due("moves()", index).due("move(" + index + ")", Play.INDEX);
        });
        Play.edge("15: there are not so many", () -> Play.refused(MoveEdgeTests::repeating, Play.INDEX, "move(1)",
                "move(-1)", "move(120)", "move(" + Play.LEAST + ")", "move(" + Play.MOST + ")"));
    }

    private static Play stacksOfFour(int cells) {
        StringBuilder text = new StringBuilder(caps(cells, 8)).append("reserve 20 0;");
        for (int cell = 0; cell < cells; cell++) {
            text.append("stack").append(cell).append("aaaa;");
        }
        return Play.of(text.toString());
    }

    private static void would() {
        Play.edge("16: the pieces that are stolen, guards from 1 to 5", () -> {
            for (int k = 1; k <= 4; k++) {
                for (int guard = 1; guard <= 5; guard++) {
                    Play.of(caps(9, 8) + "stack 8 aaaa;" + stack((8 + k) % 9, "a" + "b".repeat(guard)))
                            .due("would(8, 0, " + k + ", 1)", guard <= k ? guard : 0)
                            .due("would(8, 0, " + k + ", 3)", 1).due("would(8, 1, " + k + ", 1)", 0);
                }
            }
        });
        Play.edge("16: the player who controls the stack makes the carry, whose turn it may be", () -> {
            for (int turn = 1; turn <= 2; turn++) {
                Play.of(CAPS + "turn " + turn + "; stack 0 ab; stack 1 a; stack 4 b;").due("would(0, 0, 1, 1)", 1)
                        .due("would(0, 0, 1, 3)", 2).due("would(1, 1, 1, 1)", 1).due("would(1, 1, 1, 3)", 1)
                        .due("would(0, 1, 1, 1)", 0).due("would(1, 0, 1, 1)", 0);
            }
        });
        Play.edge("16: the goal does not matter", () -> won().due("reason(201)", 1).due("would(2, 1, 1, 1)", 1)
                .due("would(3, 1, 1, 0)", 2));
        Play.edge("16: repetitions do not matter", () -> repeating().due("reason(311)", 5).row("would(3, 1, 1, ", 2, 0, 0, 2));
        Play.edge("16: caps do not rotate", () -> Play.of("caps 3 3 3 3 1; period 1; stack 0 bba;")
                .row("would(0, 0, 1, ", 1, 0, 0, 1).due("carry(0, 0, 1)", 0).due("cell(1, 2)", 2));
        Play.edge("16: nothing changes", () -> {
            for (int what = 0; what < 4; what++) {
                int number = what;
                Play.changesNothing(MoveEdgeTests::repeating, "would(3, 1, 1, " + number + ")");
                Play.changesNothing(() -> Play.of("caps 2 1 1 2 3; goal 1; period 1; stack 0 bb; stack 1 a; stack 2 a;"
                        + "stack 3 ab; stack 4 b;"), "would(0, 0, 2, " + number + ")");
            }
        });
        Play.edge("16: a cell that does not exist goes before all else", () -> {
            for (String cell : NO_CELLS) {
                Play.refused(() -> Play.of(CAPS + "stack 0 aa;"), Play.INDEX, "would(" + cell + ", 0, 1, 0)",
                        "would(" + cell + ", 2, 5, 4)");
            }
        });
        Play.edge("16: direction, k or what out of range go before too few pieces", () -> Play.refused(
                () -> Play.of(CAPS + "stack 0 aa;"), Play.ARGUMENT, "would(0, -1, 1, 0)", "would(0, 2, 1, 0)",
                "would(0, 0, 0, 0)", "would(0, 0, 5, 0)", "would(0, 0, 1, -1)", "would(0, 0, 1, 4)", "would(0, 0, 3, 4)",
                "would(1, 0, 4, -1)", "would(1, 2, 4, 0)", "would(0, " + Play.LEAST + ", 1, 0)",
                "would(0, 0, " + Play.MOST + ", 0)", "would(0, 0, " + Play.LEAST + ", 0)", "would(0, 0, 1, " + Play.LEAST + ")",
                "would(0, 0, 1, " + Play.MOST + ")", "would(0, " + Play.MOST + ", 1, 3)"));
        Play.edge("16: the stack has fewer than k pieces", () -> {
            for (int height = 0; height <= 5; height++) {
                for (int k = 1; k <= 4; k++) {
                    Play play = Play.of(caps(5, 8) + stack(4, "b".repeat(height)));
                    for (int what = 0; what < 4; what++) {
                        String call = "would(4, 0, " + k + ", " + what + ")";
                        if (height < k) {
                            play.due(call, Play.STATE);
                        } else {
                            play.due(call, new int[] {k - 1, 0, 0, 2}[what]);
                        }
                    }
                }
            }
            Play.refused(() -> Play.of(CAPS + "stack 0 aa;"), Play.STATE, "would(0, 0, 3, 0)", "would(1, 1, 1, 3)");
        });
    }

    public static void main(String[] args) {
        codes();
        reasons();
        positions();
        carries();
        rolls();
        drops();
        periods();
        moves();
        would();
        Checks.end();
    }
}
