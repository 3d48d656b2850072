/** The boundaries of values (section 4) and of promises 19 to 21. */
public final class SearchEdgeTests {
    private static final String CAPS = "caps 3 3 3 3 3;";

    private SearchEdgeTests() {
    }

    private static String caps(int cells, int cap) {
        return RingEdgeTests.caps(cells, cap);
    }

    private static String stack(int cell, String letters) {
        return RingEdgeTests.stack(cell, letters);
    }

    private static Play won() {
        return Play.of(CAPS + "goal 1; reserve 3 3; stack 0 a; stack 1 b; stack 2 b;").due("carry(0, 0, 1)", 1);
    }

    /** Player 1 may go from cell 7 to cell 0; then both moves of player 2 would lead to positions that were. */
    private static Play cornered() {
        Play play = Play.of(caps(8, 3) + "stack 0 a; stack 2 b; stack 6 a;");
        int[] codes = {1, 201, 101, 301, 211, 401, 111, 511, 11, 411};
        for (int code : codes) {
            play.due("carry(" + code / 100 + ", " + code / 10 % 10 + ", 1)", 0);
        }
        return play;
    }

    private static void values() {
        Play.edge("section 4: 3 for each prisoner, 1 for each stack, for one player and against the other", () -> {
            for (int stolen = 1; stolen <= 4; stolen++) {
                Play one = Play.of(caps(9, 8) + "goal 40; stack 0 aaaa; stack 6 b; stack 7 b;" + stack(4, "b".repeat(stolen)));
                one.due("result(4, 1)", 3 * stolen - 1).due("carry(0, 0, 4)", stolen)
                        .due("player(1, 5)", 3 * stolen - 1).due("player(2, 5)", 1 - 3 * stolen);
                Play two = Play.of(caps(9, 8) + "goal 40; turn 2; stack 0 bbbb; stack 6 a; stack 7 a;"
                        + stack(4, "a".repeat(stolen)));
                two.due("result(4, 1)", 3 * stolen - 1).due("carry(0, 0, 4)", stolen)
                        .due("player(2, 5)", 3 * stolen - 1).due("player(1, 5)", 1 - 3 * stolen);
            }
        });
        Play.edge("section 4: the prisoners of both players", () -> Play.of(caps(5, 8) + "goal 9; stack 0 a; stack 1 b;"
                + "stack 2 bb; stack 3 aa;").due("carry(0, 0, 1)", 1).due("carry(2, 1, 1)", 1).due("player(1, 5)", -1)
                .due("player(2, 5)", 1).due("result(302, 1)", 3 - 3 + 1 - 2).due("result(301, 1)", 3 - 3 + 2 - 2));
        Play.edge("section 4: twelve stacks and no other one", () -> Play.of(caps(12, 1) + "reserve 1 0; stack 0 a; stack 1 a;"
                + "stack 2 a; stack 3 a; stack 4 a; stack 5 a; stack 6 a; stack 7 a; stack 8 a; stack 9 a; stack 10 a;")
                .due("player(1, 5)", 11).due("result(3011, 1)", 12).due("result(3011, 2)", 12).due("best(1)", 3011));
    }

    private static void depthOne() {
        Play.edge("19: depth 1, the value behind the move for the player who makes it", () -> Play.of(CAPS
                + "reserve 1 0; stack 0 aa; stack 2 b; stack 3 ba;").due("result(1, 1)", 3 - 1).due("result(2, 1)", 3 + 2 - 0)
                .due("result(301, 1)", 2 - 2).due("result(2003, 1)", 1 - 2).due("result(3001, 1)", 3 - 1)
                .due("setTurn(2)", 1).due("result(201, 1)", 3 + 1 - 1));
        Play.edge("19: depth 1, the rotating of caps included", () -> {
            Play.of("caps 3 3 3 3 1; period 1; stack 0 bba;").due("result(1, 1)", -2).due("setPeriod(2)", 1)
                    .due("result(1, 1)", 0);
        });
        Play.edge("19: depth 1, splits included", () -> Play.of("caps 3 1 3 3 3; stack 0 a; stack 1 a; stack 2 b;")
                .due("result(1, 1)", 2));
    }

    private static void depthTwo() {
        Play.edge("19: depth 2, the least one of the values for this player", () -> {
            Play.of(CAPS + "stack 0 a; stack 2 b;").due("result(1, 1)", 0).due("result(1, 2)", -4)
                    .due("result(11, 1)", 0).due("result(11, 2)", 0);
            Play.of(CAPS + "turn 2; stack 0 b; stack 2 a;").due("result(1, 2)", -4).due("result(11, 2)", 0);
        });
        Play.edge("19: depth 2, whether the least one is the first or the last answer", () -> {
            // Player 2's only stack can go clockwise (the first answer) or back (the last one); one of them steals.
            Play.of(caps(6, 3) + "stack 1 a; stack 4 a; stack 3 b;").due("result(111, 2)", -3 + 1 - 1);
            Play.of(caps(6, 3) + "stack 1 a; stack 5 a; stack 3 b;").due("result(101, 2)", -3 + 1 - 1)
                    .due("result(111, 2)", 2 - 1);
            Play.of(CAPS + "reserve 0 1; stack 0 aa; stack 3 b;").due("result(2000, 2)", 1 - 2);
            Play.of(CAPS + "stack 0 aa; stack 3 ab;").due("result(2000, 2)", -6 - 1);
        });
        Play.edge("19: depth 2, the first of all codes and the last one may be the answer", () -> {
            Play.of(caps(6, 3) + "stack 2 a; stack 0 b;").due("result(211, 1)", 0).due("result(211, 2)", -3 - 1);
            for (int cells = 5; cells <= 12; cells += 7) {
                StringBuilder text = new StringBuilder(caps(cells, 3)).append("reserve 0 1; stack 0 aa;");
                for (int cell = 1; cell < cells - 1; cell++) {
                    text.append("stack").append(cell).append("a;");
                }
                Play.of(text.toString()).due("result(2000, 1)", cells - 1).due("result(2000, 2)", cells - 1 - 1)
                        .due("answers(2000)", 1);
            }
        });
        Play.edge("19: depth 2, all answers are better for this player than depth 1 tells", () -> Play.of(
                "caps 2 1 2 2 2 2 2 2; period 2; stack 0 a; stack 2 aa; stack 5 b;").due("result(11, 1)", 2 - 1)
                .due("result(11, 2)", 3 - 1));
        Play.edge("19: depth 2, no answer as the other player has no piece", () -> Play.of(CAPS + "stack 0 a; stack 1 b;")
                .due("result(1, 1)", 4).due("result(1, 2)", 4).due("answers(1)", 0));
        Play.edge("19: depth 2, no answer as the move wins", () -> {
            String text = "stack 0 a; stack 1 b; stack 2 bb;";
            Play.of(CAPS + "goal 1;" + text).due("result(1, 1)", 3).due("result(1, 2)", 3);
            Play.of(CAPS + "goal 2;" + text).due("result(1, 1)", 3).due("result(1, 2)", 3 - 3 - 2);
        });
        Play.edge("19: depth 2, no answer as all are refused by repetition", () -> cornered().due("result(701, 1)", 1)
                .due("result(701, 2)", 1).due("answers(701)", 0).due("setTurn(1)", 1).due("answers(701)", 2));
        Play.edge("19: depth 2, an answer that is refused then does not count", () -> Play.of(caps(7, 4)
                + "stack 0 a; stack 3 aab;").due("carry(0, 1, 1)", 0).due("carry(3, 1, 1)", 0).due("result(601, 2)", 1)
                .due("setTurn(1)", 1).due("result(601, 2)", 0));
        Play.edge("19: depth 2, caps rotate behind the answer too", () -> Play.of("caps 2 1 2 2 2 2 2 2; period 2;"
                + "stack 0 a; stack 2 ba; stack 3 a; stack 5 b;").due("result(11, 1)", 3 - 1).due("result(11, 2)", 2 - 2)
                .due("setPeriod(0)", 2).due("result(11, 2)", 3 - 1));
    }

    private static void refusals() {
        Play.edge("19: there is no move with this code", () -> Play.refused(SearchEdgeTests::cornered, Play.ARGUMENT,
                "result(-1, 1)", "result(0, 1)", "result(5, 2)", "result(21, 1)", "result(801, 1)", "result(2008, 1)",
                "result(3008, 2)", "result(1999, 1)", "result(" + Play.LEAST + ", 1)", "result(" + Play.MOST + ", 2)"));
        Play.edge("19: depth is 1 or 2", () -> Play.refused(SearchEdgeTests::cornered, Play.ARGUMENT, "result(701, 0)",
                "result(701, 3)", "result(701, -1)", "result(701, " + Play.LEAST + ")", "result(701, " + Play.MOST + ")"));
        Play.edge("19: a wrong depth goes before a refused move", () -> cornered().due("result(1, 3)", Play.ARGUMENT)
                .due("result(1, 2)", Play.STATE).due("result(5, 3)", Play.ARGUMENT));
        Play.edge("19: the move is refused, for each reason", () -> {
            for (int depth = 1; depth <= 2; depth++) {
                int number = depth;
                Play.refused(SearchEdgeTests::won, Play.STATE, "result(201, " + number + ")", "result(3000, " + number + ")");
                Play.refused(() -> Play.of(CAPS + "stack 0 a; stack 1 ab;"), Play.STATE, "result(101, " + number + ")",
                        "result(2, " + number + ")", "result(2000, " + number + ")", "result(3002, " + number + ")");
                Play.refused(() -> cornered().due("carry(7, 0, 1)", 0), Play.STATE, "result(301, " + number + ")",
                        "result(311, " + number + ")");
            }
        });
        Play.edge("21: there is no move with this code", () -> Play.refused(SearchEdgeTests::cornered, Play.ARGUMENT,
                "answers(-1)", "answers(0)", "answers(5)", "answers(21)", "answers(801)", "answers(2008)", "answers(3008)",
                "answers(" + Play.LEAST + ")", "answers(" + Play.MOST + ")"));
        Play.edge("21: the move is refused, for each reason", () -> {
            Play.refused(SearchEdgeTests::won, Play.STATE, "answers(201)", "answers(3000)", "answers(2001)");
            Play.refused(() -> Play.of(CAPS + "stack 0 a; stack 1 ab;"), Play.STATE, "answers(101)", "answers(2)",
                    "answers(2000)", "answers(3002)");
            Play.refused(() -> cornered().due("carry(7, 0, 1)", 0), Play.STATE, "answers(301)", "answers(311)");
        });
    }

    private static void best() {
        Play.edge("20: of several moves with the greatest result the lowest code", () -> {
            Play.of(CAPS + "stack 2 a;").due("best(1)", 201).due("best(2)", 201);
            Play.of(CAPS + "stack 2 aa;").due("best(1)", 201).due("result(211, 1)", 2).due("result(202, 1)", 1);
            Play.of(caps(5, 8) + "stack 0 aaaa; stack 1 aaa;").due("best(1)", 2).due("result(1, 1)", 2).due("result(2, 1)", 3);
            Play.of(caps(12, 8) + "turn 2; stack 11 bb;").due("best(1)", 1101).due("best(2)", 1101);
        });
        Play.edge("20: a drop or a roll is the best move", () -> {
            Play.of(CAPS + "reserve 1 0; stack 1 a;").due("best(1)", 3000).due("best(2)", 3000);
            Play.of(CAPS + "reserve 1 0; stack 0 a;").due("best(1)", 3001);
            Play.of("caps 1 1 1 1 1; reserve 1 0; stack 0 a; stack 1 a; stack 2 a; stack 3 a;").due("best(1)", 3004);
            Play.of("caps 2 1 1 1 1; period 1; turn 2; stack 0 ab;").due("best(1)", 1).due("result(2000, 1)", 0);
        });
        Play.edge("20: the greatest result is below 0", () -> Play.of(caps(9, 3) + "stack 0 a; stack 2 b; stack 4 b; stack 5 b;")
                .due("best(1)", 1).due("result(1, 1)", -2).due("best(2)", 11).due("result(1, 2)", -6).due("result(11, 2)", -2));
        Play.edge("20: refused moves do not count", () -> {
            Play play = cornered().due("carry(7, 0, 1)", 0).due("moves()", 0).due("setTurn(1)", 2);
            play.due("best(1)", 1).due("best(2)", 1);
            Play.of(CAPS + "stack 0 a; stack 2 b;").due("carry(0, 0, 1)", 0).due("carry(2, 0, 1)", 0)
                    .due("carry(1, 1, 1)", 0).due("best(1)", 301).due("best(2)", 301);
        });
        Play.edge("20: the two depths differ", () -> Play.of(CAPS + "stack 0 a; stack 2 b;").due("best(1)", 1).due("best(2)", 11));
        Play.edge("20: all moves are refused", () -> {
            Play.refused(Play::fresh, Play.ELEMENT, "best(1)", "best(2)");
            Play.refused(SearchEdgeTests::won, Play.ELEMENT, "best(1)", "best(2)");
            Play.refused(() -> cornered().due("carry(7, 0, 1)", 0), Play.ELEMENT, "best(1)", "best(2)");
            Play.refused(() -> Play.of(CAPS + "stack 0 b;"), Play.ELEMENT, "best(1)", "best(2)");
        });
        Play.edge("20: depth is 1 or 2, and is looked at first", () -> Play.refused(Play::fresh, Play.ARGUMENT, "best(0)",
                "best(3)", "best(-1)", "best(" + Play.LEAST + ")", "best(" + Play.MOST + ")"));
    }

    private static void answers() {
        Play.edge("21: no answer, as the move wins or the other player has nothing to move", () -> {
            Play.of(CAPS + "goal 1; reserve 0 5; stack 0 a; stack 1 b; stack 2 b;").due("answers(1)", 0).due("answers(11)", 8);
            Play.of(CAPS + "stack 0 a;").due("answers(1)", 0);
            Play.of(CAPS + "reserve 0 1; stack 0 a;").due("answers(1)", 4);
        });
        Play.edge("21: as many answers as there can be", () -> {
            StringBuilder text = new StringBuilder(caps(12, 8)).append("reserve 0 9; stack 0 a;");
            for (int cell = 1; cell < 12; cell++) {
                text.append("stack").append(cell).append("bbbb;");
            }
            Play.of(text.toString()).due("answers(1)", 10 * 10 + 1).due("answers(11)", 10 * 10 + 1);
        });
        Play.edge("21: answers that are refused then do not count", () -> Play.of(CAPS + "stack 0 a; stack 2 b;")
                .due("carry(0, 0, 1)", 0).due("carry(2, 0, 1)", 0).due("answers(111)", 1).due("answers(101)", 2));
        Play.edge("21: the caps are rotated before the answers", () -> Play.of("caps 3 3 3 3 1; period 1; reserve 0 1;"
                + "stack 0 bba;").due("answers(1)", 2 + 4 + 1 + 1 + 3));
        Play.edge("19 to 21: looking for moves changes nothing", () -> {
            String[] calls = {"result(701, 1)", "result(701, 2)", "best(1)", "best(2)", "answers(701)", "reason(701)",
                "reason(711)", "moves()", "move(0)", "threats(6)", "reach(0)", "highest(1)", "count(5)"};
            for (String call : calls) {
                Play.changesNothing(SearchEdgeTests::cornered, call);
            }
        });
    }

    public static void main(String[] args) {
        values();
        depthOne();
        depthTwo();
        refusals();
        best();
        answers();
        Checks.end();
    }
}
