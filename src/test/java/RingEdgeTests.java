/** The boundaries of the ring and of splits (sections 1 and 2) and of promises 5 to 9, 17 and 18. */
public final class RingEdgeTests {
    private static final String[] STRANGE = {"-1", String.valueOf(Play.LEAST), String.valueOf(Play.MOST)};

    private RingEdgeTests() {
    }

    /** A text with as many cells as told, all with the same cap. */
    static String caps(int cells, int cap) {
        return "caps" + (" " + cap).repeat(cells) + ";";
    }

    static String stack(int cell, String letters) {
        return letters.isEmpty() ? "" : "stack " + cell + " " + letters + ";";
    }

    private static String full(int cells, int cap, String letter) {
        StringBuilder text = new StringBuilder(caps(cells, cap));
        for (int cell = 0; cell < cells; cell++) {
            text.append("stack").append(cell).append(letter.repeat(cap)).append(';');
        }
        return text.toString();
    }

    private static void count() {
        Play.edge("5: the empty ring", () -> Play.of(caps(5, 1)).row("count(", 5, 1, 0, 0, 5, 0, 0, 5, 0, 5));
        Play.edge("5: the full ring of twelve cells", () -> Play.of(full(12, 8, "a")).row("count(", 12, 1, 0, 0, 5, 0,
                96, 0, 8, 96));
        Play.edge("5: the greatest height, of one stack and of several", () -> {
            for (int height = 1; height <= 8; height++) {
                for (int cell = 0; cell < 5; cell++) {
                    Play.of(caps(5, 8) + stack(cell, "b".repeat(height)) + stack((cell + 1) % 5, "a"))
                            .row("count(", 5, 1, 0, 0, 5, 0, height + 1, 3, height, 40);
                }
            }
        });
        Play.edge("5: the sum of different caps", () -> Play.of("caps 1 2 3 4 5 6 7 8 1 2 3 5;").due("count(9)", 47));
        Play.edge("5: moves made since the latest load", () -> Play.of(caps(5, 3) + stack(0, "a") + stack(2, "b"))
                .due("count(2)", 0).due("carry(0, 0, 1)", 0).due("count(2)", 1).due("setTurn(1)", 2).due("setPeriod(3)", 0)
                .due("rotateCaps()", 0).due("count(2)", 1).due("carry(1, 0, 1)", 1).due("count(2)", 2).due("undo()", 5)
                .due("count(2)", 1).load(caps(5, 3), 0).due("count(2)", 0));
        Play.edge("5: the player who has won by the goal: one prisoner less, as many, more", () -> {
            for (int goal = 1; goal <= 4; goal++) {
                for (int stolen = 1; stolen <= 4; stolen++) {
                    String text = caps(5, 8) + "goal " + goal + ";";
                    Play.of(text + "stack 0 aaaa;" + stack(4, "b".repeat(stolen))).due("count(5)", 0)
                            .due("carry(0, 0, 4)", stolen).due("count(5)", stolen >= goal ? 1 : 0);
                    Play.of(text + "turn 2; stack 0 bbbb;" + stack(4, "a".repeat(stolen))).due("count(5)", 0)
                            .due("carry(0, 0, 4)", stolen).due("count(5)", stolen >= goal ? 2 : 0);
                }
            }
        });
        Play.edge("5: any other what", () -> {
            String[] wrong = {"count(-1)", "count(10)", "count(11)", "count(" + Play.LEAST + ")", "count(" + Play.MOST + ")"};
            Play.refused(() -> Play.of(caps(5, 3) + "stack 0 ab;").due("setTurn(2)", 1), Play.ARGUMENT, wrong);
        });
    }

    private static void cell() {
        Play.edge("6: caps from 1 to 8", () -> {
            Play play = Play.of("caps 1 2 3 4 5 6 7 8;");
            for (int cell = 0; cell < 8; cell++) {
                play.row("cell(" + cell + ", ", cell + 1, 0, 0, 0, 0);
            }
        });
        Play.edge("6: heights from 0 to 8", () -> {
            for (int height = 1; height <= 8; height++) {
                Play.of(caps(5, 8) + stack(3, "a".repeat(height))).row("cell(3, ", 8, height, 1, height, height)
                        .row("cell(2, ", 8, 0, 0, 0, 0);
                Play.of(caps(5, 8) + stack(3, "b".repeat(height))).row("cell(3, ", 8, height, 2, height, 0);
            }
        });
        Play.edge("6: a stack is controlled by the player of its uppermost piece, an empty one by nobody", () ->
                Play.of(caps(6, 8) + "stack 0 a; stack 1 b; stack 2 bbbbbbba; stack 3 aaaaaaab; stack 5 ba;")
                        .due("cell(0, 2)", 1).due("cell(1, 2)", 2).due("cell(2, 2)", 1).due("cell(3, 2)", 2)
                        .due("cell(4, 2)", 0).due("cell(5, 2)", 1));
        Play.edge("6: the guard goes downward without a break", () -> {
            for (int guard = 1; guard <= 7; guard++) {
                String below = "ab".repeat(4).substring(0, 7 - guard);
                Play.of(caps(5, 8) + stack(4, below + "b" + "a".repeat(guard))).due("cell(4, 1)", 8)
                        .due("cell(4, 3)", guard).due("cell(4, 2)", 1);
                Play.of(caps(5, 8) + stack(4, below + "a" + "b".repeat(guard))).due("cell(4, 1)", 8)
                        .due("cell(4, 3)", guard).due("cell(4, 2)", 2);
            }
        });
        Play.edge("6: the pieces of player 1, none, some, all", () -> Play.of(caps(5, 8)
                + "stack 0 bbbbbbbb; stack 1 aaaaaaaa; stack 2 abababab; stack 3 abbbbbbb;")
                .due("cell(0, 4)", 0).due("cell(1, 4)", 8).due("cell(2, 4)", 4).due("cell(3, 4)", 1).due("cell(4, 4)", 0));
        Play.edge("6: the cell before the first and behind the last one", () -> {
            for (int cells = 5; cells <= 12; cells++) {
                Play play = Play.of(caps(cells, 2));
                for (int what = 0; what < 5; what++) {
                    play.due("cell(" + (cells - 1) + ", " + what + ")", what == 0 ? 2 : 0);
                    play.all(Play.INDEX, "cell(" + cells + ", " + what + ")", "cell(-1, " + what + ")");
                }
            }
        });
        Play.edge("6: any other what, and the cell is looked at first", () -> {
            Play.refused(() -> Play.of(caps(5, 3)).due("writeStack(1)", 2), Play.ARGUMENT, "cell(0, 5)", "cell(4, -1)",
                    "cell(0, " + Play.LEAST + ")", "cell(0, " + Play.MOST + ")");
            Play.refused(() -> Play.of(caps(5, 3)), Play.INDEX, "cell(5, 5)", "cell(-1, -1)",
                    "cell(" + Play.LEAST + ", " + Play.MOST + ")", "cell(" + Play.MOST + ", 0)", "cell(12, 0)");
        });
        Play.edge("6: a cell that was there before a smaller game was loaded", () -> Play.of(full(12, 2, "a"))
                .load(caps(5, 2), 0).all(Play.INDEX, "cell(5, 1)", "cell(11, 1)", "piece(5, 0)", "threats(11)", "reach(5)"));
    }

    private static void piece() {
        Play.edge("7: the lowest piece is number 0, the uppermost one the height less 1", () -> {
            String letters = "abbabaab";
            for (int height = 1; height <= 8; height++) {
                Play play = Play.of(caps(12, 8) + stack(11, letters.substring(0, height)));
                for (int piece = 0; piece < height; piece++) {
                    play.due("piece(11, " + piece + ")", letters.charAt(piece) - 'a' + 1);
                }
                play.all(Play.INDEX, "piece(11, " + height + ")", "piece(11, -1)");
            }
        });
        Play.edge("7: an empty stack has no piece", () -> Play.of(caps(5, 8)).all(Play.INDEX, "piece(0, 0)",
                "piece(4, 0)", "piece(0, -1)"));
        Play.edge("7: there is no such cell or piece", () -> {
            for (String wrong : STRANGE) {
                Play.refused(() -> Play.of(caps(5, 8) + "stack 0 aaaaaaaa;"), Play.INDEX, "piece(0, " + wrong + ")",
                        "piece(" + wrong + ", 0)", "piece(" + wrong + ", " + wrong + ")");
            }
            Play.of(caps(5, 8) + "stack 0 aaaaaaaa;").all(Play.INDEX, "piece(0, 8)", "piece(0, 32)", "piece(0, 64)",
                    "piece(5, 0)", "piece(12, 0)", "piece(1, 0)");
        });
    }

    private static void player() {
        Play.edge("8: no pieces at all", () -> Play.of(caps(12, 8)).row("player(1, ", 0, 0, 0, 0, 0, 0)
                .row("player(2, ", 0, 0, 0, 0, 0, 0));
        Play.edge("8: all 96 pieces are one player's", () -> {
            Play.of(full(12, 8, "a")).row("player(1, ", 96, 0, 0, 12, 0, 12).row("player(2, ", 0, 0, 0, 0, 0, -12);
            Play.of(full(12, 8, "b")).row("player(2, ", 96, 0, 0, 12, 0, 12).row("player(1, ", 0, 0, 0, 0, 0, -12);
        });
        Play.edge("8: reserves of 0 and 20", () -> Play.of(caps(5, 1) + "reserve 20 0;").due("player(1, 1)", 20)
                .due("player(2, 1)", 0).load(caps(5, 1) + "reserve 0 20;", 0).due("player(1, 1)", 0).due("player(2, 1)", 20));
        Play.edge("8: stacks on the first and the last cell are counted", () -> Play.of(caps(12, 8)
                + "stack 0 ab; stack 11 ba;").row("player(1, ", 2, 0, 0, 1, 1, 0).row("player(2, ", 2, 0, 0, 1, 1, 0));
        Play.edge("8: own pieces below a piece of the other player, somewhere above them", () -> {
            String[] stacks = {"a", "ab", "aab", "aba", "abab", "aaaaaaab", "abaaaaaa", "baaaaaaa", "bbbbbbba", "abbbbbba"};
            int[] coveredOne = {0, 1, 2, 1, 2, 7, 1, 0, 0, 1};
            int[] coveredTwo = {0, 0, 0, 1, 1, 0, 1, 1, 7, 6};
            for (int i = 0; i < stacks.length; i++) {
                Play.of(caps(5, 8) + stack(2, stacks[i])).due("player(1, 4)", coveredOne[i])
                        .due("player(2, 4)", coveredTwo[i]);
            }
            Play.of(caps(5, 8) + "stack 0 a; stack 1 b; stack 2 b;").due("player(1, 4)", 0).due("player(2, 4)", 0);
        });
        Play.edge("8: prisoners are the stolen pieces of the other player", () -> Play.of(caps(5, 8)
                + "goal 9; stack 0 aaaa; stack 4 bbbb; stack 1 b;").due("carry(0, 0, 4)", 4).due("player(1, 2)", 4)
                .due("player(2, 2)", 0).row("player(1, ", 4, 0, 4, 1, 0, 12).row("player(2, ", 1, 0, 0, 1, 0, -12));
        Play.edge("8: a player is 1 or 2", () -> {
            String[] wrong = {"player(0, 0)", "player(3, 0)", "player(-1, 0)", "player(" + Play.LEAST + ", 0)",
                "player(" + Play.MOST + ", 5)", "player(0, 9)"};
            Play.refused(() -> Play.of(caps(5, 8) + "stack 0 ab;"), Play.ARGUMENT, wrong);
        });
        Play.edge("8: what is 0 to 5", () -> Play.refused(() -> Play.of(caps(5, 8) + "stack 0 ab;"), Play.ARGUMENT,
                "player(1, 6)", "player(2, -1)", "player(2, 6)", "player(1, " + Play.LEAST + ")",
                "player(2, " + Play.MOST + ")"));
    }

    private static void highest() {
        Play.edge("9: of several highest stacks the lowest cell", () -> Play.of(caps(12, 8) + "stack 11 bbb; stack 10 aab;"
                + "stack 3 bba; stack 4 aaa; stack 5 b; stack 0 a;").due("highest(1)", 3).due("highest(2)", 10));
        Play.edge("9: a higher stack further on, in the last cell too", () -> Play.of(caps(12, 8) + "stack 0 a; stack 3 aa;"
                + "stack 11 bba; stack 1 bb; stack 7 aab; stack 8 aaaaaaab;").due("highest(1)", 11).due("highest(2)", 8));
        Play.edge("9: a lower stack further on does not count", () -> Play.of(caps(12, 8) + "stack 0 aa; stack 1 a; stack 4 b;"
                + "stack 5 aaab; stack 6 aab; stack 11 b;").due("highest(1)", 0).due("highest(2)", 5));
        Play.edge("9: a higher stack of the other player does not count", () -> Play.of(caps(5, 8)
                + "stack 0 aaaaaaab; stack 1 a; stack 2 bbba; stack 3 bbbbbbbb;").due("highest(1)", 2).due("highest(2)", 0));
        Play.edge("9: heights from 1 to 8", () -> {
            for (int height = 1; height <= 8; height++) {
                Play.of(caps(5, 8) + stack(4, "b".repeat(height - 1) + "a")).due("highest(1)", 4)
                        .due("highest(2)", Play.ELEMENT);
            }
        });
        Play.edge("9: the player controls no stack", () -> {
            Play.refused(() -> Play.of(caps(5, 8) + "stack 0 aab;"), Play.ELEMENT, "highest(1)");
            Play.refused(() -> Play.of(caps(5, 8) + "stack 0 bba;"), Play.ELEMENT, "highest(2)");
            Play.refused(Play::fresh, Play.ELEMENT, "highest(1)", "highest(2)");
        });
        Play.edge("9: the player is looked at first", () -> Play.refused(Play::fresh, Play.ARGUMENT, "highest(0)",
                "highest(3)", "highest(-1)", "highest(" + Play.LEAST + ")", "highest(" + Play.MOST + ")"));
    }

    private static void threats() {
        Play.edge("17: every distance, guard and height", () -> {
            for (int cells = 5; cells <= 12; cells++) {
                for (int distance = 1; distance < cells; distance++) {
                    threatsFrom(cells, distance, 1 + (cells + distance) % 5, 1 + distance % 4);
                    threatsFrom(cells, distance, 4, 1);
                    threatsFrom(cells, distance, 8, 4);
                    threatsFrom(cells, distance, 8, 5);
                }
            }
        });
        Play.edge("17: the guard alone counts, not the height", () -> Play.of(caps(6, 8) + "stack 0 aaaaaaab; stack 1 a;")
                .due("threats(0)", 1).due("threats(1)", 1));
        Play.edge("17: a guard of 4 is stolen by 4 pieces, a guard of 5 is not", () -> {
            Play.of(caps(9, 8) + "stack 0 bbbb; stack 4 aaaaaaaa; stack 5 aaaa;").due("threats(0)", 2);
            Play.of(caps(9, 8) + "stack 0 bbbbb; stack 4 aaaaaaaa; stack 5 aaaa;").due("threats(0)", 0);
            Play.of(caps(9, 8) + "stack 0 bbbb; stack 4 aaa; stack 5 aaa;").due("threats(0)", 0);
        });
        Play.edge("17: carries of stacks that the player of the stack controls do not count", () -> Play.of(caps(5, 8)
                + "stack 0 b; stack 1 aaab; stack 4 ab;").due("threats(0)", 0).due("threats(1)", 0));
        Play.edge("17: from every other cell", () -> Play.of(caps(5, 8) + "stack 2 b; stack 0 aaaa; stack 1 aaaa;"
                + "stack 3 aaaa; stack 4 aaaa;").due("threats(2)", 8));
        Play.edge("17: both directions to the same cell are two carries", () -> Play.of(caps(8, 8)
                + "stack 7 b; stack 3 aaaa;").due("threats(7)", 2));
        Play.edge("17: the guard of an empty stack: 0", () -> Play.of(caps(5, 8) + "stack 1 aaaa; stack 4 bbbb;")
                .all(0, "threats(0)", "threats(2)", "threats(3)"));
        Play.edge("17: the turn does not matter", () -> {
            for (int turn = 1; turn <= 2; turn++) {
                Play.of(caps(5, 8) + "turn " + turn + "; stack 0 b; stack 1 a;").due("threats(0)", 1).due("threats(1)", 1);
            }
        });
        Play.edge("17: the goal does not matter", () -> Play.of(caps(6, 8) + "goal 1; stack 0 a; stack 1 b; stack 2 b;")
                .due("carry(0, 0, 1)", 1).due("count(5)", 1).due("threats(1)", 1).due("threats(2)", 1));
        Play.edge("17: a cell that does not exist", () -> Play.refused(() -> Play.of(caps(5, 8) + "stack 0 b; stack 1 a;"),
                Play.INDEX, "threats(-1)", "threats(5)", "threats(12)", "threats(" + Play.LEAST + ")",
                "threats(" + Play.MOST + ")"));
        Play.edge("17: the last of twelve cells", () -> Play.of(caps(12, 8) + "stack 11 b; stack 0 a; stack 8 aaa;"
                + "stack 3 aaaa; stack 7 aaaa;").due("threats(11)", 4).due("threats(12)", Play.INDEX));
    }

    private static void threatsFrom(int cells, int distance, int height, int guard) {
        int want = 0;
        for (int k = guard; k <= 4 && k <= height; k++) {
            want += (k == distance ? 1 : 0) + (cells - k == distance ? 1 : 0);
        }
        for (int from = 0; from < cells; from += cells - 1) {
            int target = (from + distance) % cells;
            Play.of(caps(cells, 8) + stack(from, "a".repeat(height)) + stack(target, "a" + "b".repeat(guard)))
                    .due("threats(" + target + ")", want);
            Play.of(caps(cells, 8) + stack(from, "b".repeat(height)) + stack(target, "a".repeat(guard)))
                    .due("threats(" + target + ")", want);
        }
    }

    private static void reach() {
        Play.edge("18: every cell and height, around the ring in both directions", () -> {
            for (int cells = 5; cells <= 12; cells++) {
                for (int cell = 0; cell < cells; cell++) {
                    for (int height = 0; height <= 8; height++) {
                        int want = 0;
                        for (int k = 1; k <= 4 && k <= height; k++) {
                            want |= 1 << (cell + k) % cells | 1 << (cell + cells - k) % cells;
                        }
                        Play.of(caps(cells, 8) + stack(cell, "ab".repeat(4).substring(0, height)))
                                .due("reach(" + cell + ")", want);
                    }
                }
            }
        });
        Play.edge("18: an empty stack reaches nothing, five pieces no more than four", () -> Play.of(caps(12, 8)
                + "stack 5 aaaa; stack 6 aaaaa;").due("reach(0)", 0).due("reach(5)", 0b1111011110)
                .due("reach(6)", 0b11110111100));
        Play.edge("18: the turn, the goal and repetitions do not matter", () -> {
            Play.of(caps(6, 8) + "goal 1; stack 0 a; stack 1 b;").due("reach(1)", 0b101).due("carry(0, 0, 1)", 1)
                    .due("reach(1)", 0b101).due("setTurn(1)", 2).due("reach(1)", 0b101);
            Play.of(caps(5, 3) + "stack 0 a; stack 2 b;").due("carry(0, 0, 1)", 0).due("carry(2, 0, 1)", 0)
                    .due("carry(1, 1, 1)", 0).due("reason(311)", 5).due("reach(3)", 0b10100);
        });
        Play.edge("18: a cell that does not exist", () -> Play.refused(() -> Play.of(caps(5, 8) + "stack 0 b;"),
                Play.INDEX, "reach(-1)", "reach(5)", "reach(12)", "reach(" + Play.LEAST + ")", "reach(" + Play.MOST + ")"));
    }

    private static void splits() {
        Play.edge("section 2: a stack as high as its cap is not split", () -> {
            for (int cap = 2; cap <= 8; cap++) {
                String below = "ba".repeat(4).substring(8 - cap + 1);
                Play.of("caps 8 " + cap + " 8 8 8; stack 0 a;" + stack(1, below)).due("would(0, 0, 1, 2)", 0)
                        .due("carry(0, 0, 1)", 0).stacks("8 ", cap + " " + below + "a", "8 ", "8 ", "8 ");
            }
        });
        Play.edge("section 2: a stack one higher than its cap gives its lowest piece", () -> {
            for (int cap = 1; cap <= 8; cap++) {
                String below = "ba".repeat(4).substring(8 - cap);
                Play.of("caps 8 " + cap + " 8 8 8; stack 0 a;" + stack(1, below)).due("would(0, 0, 1, 2)", 1)
                        .due("carry(0, 0, 1)", 0)
                        .stacks("8 ", cap + " " + below.substring(1) + "a", "8 " + below.charAt(0), "8 ", "8 ");
            }
        });
        Play.edge("section 2: as many pieces as it is too high, in their order, on top of the next stack", () -> {
            Play.of("caps 4 4 8 8 8; stack 0 a; stack 1 baba; stack 2 ba;").due("carry(0, 0, 1)", 0)
                    .stacks("4 ", "4 abaa", "8 bab");
            Play.of("caps 4 8 4 8 8; stack 0 aa; stack 2 abba; stack 3 ba;").due("carry(0, 0, 2)", 0)
                    .stacks("4 ", "8 ", "4 baaa", "8 baab");
            Play.of("caps 4 8 8 4 8; stack 0 aba; stack 3 abba; stack 4 ba;").due("carry(0, 0, 3)", 0)
                    .stacks("4 ", "8 ", "8 ", "4 aaba", "8 baabb");
            Play.of("caps 8 8 8 8 4; stack 0 baba; stack 4 abba;").due("carry(0, 0, 4)", 0)
                    .stacks("8 abba", "8 ", "8 ", "8 ", "4 baba");
        });
        Play.edge("section 2: the next cell is settled then, and so on", () -> Play.of("caps 4 1 1 1 1 1 1 1; stack 0 abba;")
                .due("would(0, 0, 4, 2)", 3).due("carry(0, 0, 4)", 0)
                .stacks("4 ", "1 ", "1 ", "1 ", "1 a", "1 b", "1 b", "1 a"));
        Play.edge("section 2: splits go on around the ring from the last cell to cell 0", () -> {
            Play.of("caps 1 1 4 1 1; turn 2; stack 2 aabb;").due("would(2, 1, 4, 2)", 3).due("carry(2, 1, 4)", 0)
                    .stacks("1 a", "1 a", "4 ", "1 b", "1 b");
            Play.of("caps 2 2 8 1 2; stack 3 a; stack 4 ba; stack 0 bb; stack 1 a;").due("would(3, 0, 1, 2)", 2)
                    .due("carry(3, 0, 1)", 0).stacks("2 bb", "2 ab", "8 ", "1 ", "2 aa");
            Play.of("caps 2 8 8 8 8 8 8 8 8 8 1 1; stack 10 a; stack 11 a; stack 0 b;").due("would(10, 0, 1, 2)", 1)
                    .due("carry(10, 0, 1)", 0).stacks("2 ba", "8 ");
        });
        Play.edge("section 2: the longest run of splits, all cells but one", RingEdgeTests::longestRun);
        Play.edge("section 2: stolen pieces are gone before the cell is settled", () -> Play.of("caps 8 8 2 8 8;"
                + "stack 0 aa; stack 2 bb;").due("would(0, 0, 2, 2)", 0).due("carry(0, 0, 2)", 2).stacks("8 ", "8 ", "2 aa", "8 "));
        Play.edge("section 2: a split changes who controls the next cell", () -> Play.of("caps 8 2 8 8 8;"
                + "stack 0 a; stack 1 aa; stack 2 b;").due("carry(0, 0, 1)", 0).stacks("8 ", "2 aa", "8 ba")
                .due("cell(2, 2)", 1));
    }

    /** Every full cell hands its pieces on, until the cell that the carry has emptied. */
    private static void longestRun() {
        for (int cells = 5; cells <= 12; cells++) {
            for (int from = 0; from < cells; from++) {
                int target = (from + 1) % cells;
                StringBuilder text = new StringBuilder(caps(cells, 1));
                String[] want = new String[cells];
                for (int cell = 0; cell < cells; cell++) {
                    String letter = cell == from || cell == target || cell % 3 == 0 ? "a" : "b";
                    text.append("stack").append(cell).append(letter).append(';');
                    want[(cell + 1) % cells] = "1 " + letter;
                }
                Play.of(text.toString()).due("would(" + from + ", 0, 1, 2)", cells - 1)
                        .due("would(" + from + ", 0, 1, 3)", 1).due("carry(" + from + ", 0, 1)", 0).stacks(want);
            }
            for (int k = 1; k <= 4; k++) {
                Play.of(full(cells, k, "b")).due("would(0, 0, " + k + ", 2)", cells - k)
                        .due("would(0, 1, " + k + ", 2)", k).due("would(" + (cells - 1) + ", 0, " + k + ", 2)", cells - k);
            }
        }
    }

    private static void ring() {
        Play.edge("section 1: behind the last cell comes cell 0, clockwise and back", () -> {
            for (int cells = 5; cells <= 12; cells++) {
                for (int cell = 0; cell < cells; cell++) {
                    for (int k = 1; k <= 4; k++) {
                        int on = (cell + k) % cells;
                        int back = (cell + cells - k) % cells;
                        Play play = Play.of(caps(cells, 8) + stack(cell, "aaaa"));
                        play.due("would(" + cell + ", 0, " + k + ", 0)", on).due("would(" + cell + ", 1, " + k + ", 0)", back);
                        play.due("carry(" + cell + ", 0, " + k + ")", 0).due("cell(" + on + ", 1)", k)
                                .due("cell(" + cell + ", 1)", 4 - k).due("undo()", 1);
                        play.due("carry(" + cell + ", 1, " + k + ")", 0).due("cell(" + back + ", 1)", k)
                                .due("cell(" + cell + ", 1)", 4 - k);
                    }
                }
            }
        });
        Play.edge("section 1: no piece ever vanishes", () -> {
            String[] texts = {caps(5, 1) + "goal 40; reserve 3 3; period 2; stack 0 a; stack 1 b; stack 3 b;",
                "caps 8 1 2 3 1 2; goal 40; reserve 20 20; period 3; stack 0 abababab; stack 2 ab; stack 4 a; stack 5 bb;",
                "caps" + " 3 1 2".repeat(4) + "; goal 40; reserve 9 4; period 1; stack 0 aba; stack 3 bab; stack 9 a; stack 11 bb;"};
            for (String text : texts) {
                for (int start = 1; start <= 5; start++) {
                    countPieces(Play.of(text), start);
                }
            }
        });
    }

    private static void countPieces(Play play, int start) {
        int one = sum(play, 1);
        int two = sum(play, 2);
        for (int made = 0; made < 60; made++) {
            int open = play.answer("moves()");
            if (open == 0) {
                play.due("setTurn(" + (3 - play.answer("count(1)")) + ")", play.answer("count(1)"));
                continue;
            }
            int code = play.answer("move(" + (made * 7 + start * 5) % open + ")");
            if (code >= 3000) {
                play.answer("drop(" + (code - 3000) + ")");
            } else if (code >= 2000) {
                play.answer("roll(" + (code - 2000) + ")");
            } else {
                play.answer("carry(" + code / 100 + ", " + code / 10 % 10 + ", " + code % 10 + ")");
            }
            Checks.due("pieces of player 1", String.valueOf(sum(play, 1)), String.valueOf(one));
            Checks.due("pieces of player 2", String.valueOf(sum(play, 2)), String.valueOf(two));
            for (int cell = 0; cell < play.answer("count(0)"); cell++) {
                Checks.dueTrue("cell " + cell + " is settled",
                        play.answer("cell(" + cell + ", 1)") <= play.answer("cell(" + cell + ", 0)"));
            }
        }
    }

    /** A player's pieces on the ring, in the reserve and among the other player's prisoners. */
    private static int sum(Play play, int player) {
        return play.answer("player(" + player + ", 0)") + play.answer("player(" + player + ", 1)")
                + play.answer("player(" + (3 - player) + ", 2)");
    }

    public static void main(String[] args) {
        count();
        cell();
        piece();
        player();
        highest();
        threats();
        reach();
        splits();
        ring();
        Checks.end();
    }
}
