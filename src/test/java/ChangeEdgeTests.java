import java.util.List;
import java.util.function.Supplier;

/** The boundaries of promises 22 to 24 and 27 to 30, of the changes in section 5 and of section 6. */
public final class ChangeEdgeTests {
    private static final String CAPS = "caps 3 3 3 3 3;";
    /** One call of each kind that is a change; the last one loads what 'ready' leaves in the buffer. */
    private static final String[] KINDS = {"carry(0, 0, 1)", "roll(0)", "drop(3)", "setTurn(1)", "setPeriod(20)",
        "rotateCaps()", "restore(0)", "restore(1)", "load(23)"};
    private static final String[] NO_CHANGES = {"append(0, 1, 2, 3, 4)", "load(0)", "load(14)", "errorPosition()",
        "count(0)", "cell(0, 0)", "piece(0, 0)", "player(1, 0)", "highest(1)", "reason(1)", "moves()", "move(0)",
        "would(0, 0, 1, 0)", "threats(0)", "reach(0)", "result(1, 2)", "best(2)", "answers(1)", "writeStack(0)",
        "writtenByte(0)", "save(0)", "save(1)", "differing(0)"};

    private ChangeEdgeTests() {
    }

    private static String caps(int cells, int cap) {
        return RingEdgeTests.caps(cells, cap);
    }

    private static String stack(int cell, String letters) {
        return RingEdgeTests.stack(cell, letters);
    }

    /** A game in which each of KINDS can be called: all slots, texts, positions and numbers tell something. */
    private static Play ready() {
        return Play.of("caps 1 1 1 1 1 2; stack 0 b; stack 3 a;").due("save(1)", 2)
                .load("caps 4 2 3 2 3; period 3; goal 9; reserve 4 5; stack 0 abaa; stack 1 b; stack 2 bb;", 7)
                .due("carry(0, 0, 1)", 1).due("carry(2, 0, 2)", 0).due("save(0)", 6).due("roll(0)", 2).due("setTurn(1)", 2)
                .due("writeStack(0)", 5).load("caps 3 3 3 3 4; goal 0;", Play.VALUE)
                .due("undo()", 5).due("undo()", 4).fill("caps 2 2 2 2 2; turn 2;");
    }

    private static void turns() {
        Play.edge("22: the player whose turn it was, 1 or 2", () -> Play.of(CAPS).due("setTurn(1)", 1).due("count(1)", 1)
                .due("setTurn(2)", 1).due("count(1)", 2).due("setTurn(2)", 2).due("count(1)", 2).due("setTurn(1)", 2));
        Play.edge("22: a player is 1 or 2", () -> Play.refused(ChangeEdgeTests::ready, Play.ARGUMENT, "setTurn(0)",
                "setTurn(3)", "setTurn(-1)", "setTurn(" + Play.LEAST + ")", "setTurn(" + Play.MOST + ")"));
        Play.edge("22: nothing but the turn and the positions changes", () -> {
            Play play = ready().due("setTurn(2)", 1).row("count(", 5, 2, 2, 3, 9, 0, 6, 2, 3, 14);
            play.stacks("4 aba", "2 a", "3 ", "2 ", "3 bb").row("player(1, ", 3, 4, 1, 2, 1, 4);
        });
    }

    private static void periods() {
        Play.edge("23: the previous period, 0 to 20", () -> {
            Play play = Play.of(CAPS + "period 7;").due("setPeriod(0)", 7).due("count(3)", 0);
            for (int period = 1; period <= 20; period++) {
                play.due("setPeriod(" + period + ")", period - 1).due("count(3)", period);
            }
        });
        Play.edge("23: a period is 0 to 20", () -> Play.refused(ChangeEdgeTests::ready, Play.ARGUMENT, "setPeriod(-1)",
                "setPeriod(21)", "setPeriod(" + Play.LEAST + ")", "setPeriod(" + Play.MOST + ")"));
        Play.edge("23: the new period counts for the next move", () -> Play.of("caps 3 3 3 3 1; stack 0 aa;")
                .due("setPeriod(1)", 0).due("cell(4, 0)", 1).due("roll(0)", 1).due("cell(0, 0)", 1).due("cell(1, 1)", 1)
                .due("undo()", 2).due("setPeriod(0)", 1).due("roll(0)", 1).due("cell(4, 0)", 1));
    }

    private static void rotations() {
        Play.edge("24: how many cells have another height, none to all", () -> {
            Play.fresh().due("rotateCaps()", 0);
            Play.of("caps 1 2 3 4 5 6 7 8 7 6 5 4;").due("rotateCaps()", 0).stacks("4 ", "1 ", "2 ", "3 ", "4 ", "5 ",
                    "6 ", "7 ", "8 ", "7 ", "6 ", "5 ");
            Play.of("caps 1 2 3 4 5; stack 0 a; stack 1 ba; stack 2 aba; stack 3 abab; stack 4 babab;")
                    .due("rotateCaps()", 5).stacks("5 ababa", "1 a", "2 ab", "3 bab", "4 baba");
        });
        Play.edge("24: a cell with other pieces but the same height does not count", () ->
                Play.of("caps 2 2 3 1 2; stack 0 ab; stack 1 ba; stack 4 ab;").due("rotateCaps()", 2)
                        .stacks("2 ba", "2 aa", "2 b", "3 ", "1 b"));
        Play.edge("24: every cell gets the cap of the cell before it and is settled, cell 0 to the last one", () -> {
            for (int cells = 5; cells <= 12; cells++) {
                for (int high = 0; high < cells; high++) {
                    StringBuilder text = new StringBuilder("caps");
                    for (int cell = 0; cell < cells; cell++) {
                        text.append(cell == high ? " 3" : " 1");
                    }
                    int next = (high + 1) % cells;
                    Play.of(text + ";" + stack(high, "abb")).due("rotateCaps()", 2).due("cell(" + next + ", 0)", 3)
                            .due("cell(" + next + ", 1)", 2).due("piece(" + next + ", 0)", 1).due("piece(" + next + ", 1)", 2)
                            .due("cell(" + high + ", 0)", 1).due("piece(" + high + ", 0)", 2);
                }
            }
        });
        Play.edge("24: no move, no turn, no period, no steal", () -> Play.of("caps 3 1 2 1 1; period 1; goal 1; reserve 1 2;"
                + "turn 2; stack 0 aab; stack 1 b;").due("rotateCaps()", 2).stacks("1 b", "3 baa", "1 ", "2 ", "1 ")
                .row("count(", 5, 2, 0, 1, 1, 0, 4, 3, 3, 8).due("player(1, 1)", 1).due("player(2, 1)", 2).due("player(1, 2)", 0));
        Play.edge("24: as often as there are cells", () -> {
            for (int cells = 5; cells <= 12; cells += 7) {
                StringBuilder text = new StringBuilder("caps");
                for (int cell = 0; cell < cells; cell++) {
                    text.append(' ').append(1 + cell % 8);
                }
                Play play = Play.of(text + ";");
                for (int times = 1; times <= cells; times++) {
                    play.due("rotateCaps()", 0);
                    for (int cell = 0; cell < cells; cell++) {
                        play.due("cell(" + cell + ", 0)", 1 + Math.floorMod(cell - times, cells) % 8);
                    }
                }
            }
        });
        Play.edge("24: when the game is won, too", () -> Play.of("caps 3 3 3 3 1; goal 1; stack 0 a; stack 1 b;")
                .due("carry(0, 0, 1)", 1).due("rotateCaps()", 0).due("cell(0, 0)", 1).due("count(5)", 1).due("count(1)", 2));
    }

    private static void changes() {
        Play.edge("27: there is no change to undo", () -> {
            Play.refused(Play::fresh, Play.STATE, "undo()");
            Play.refused(() -> Play.of(CAPS).due("undo()", 0), Play.STATE, "undo()");
            Play.refused(() -> {
                Play play = ready();
                for (int left = 3; left >= 0; left--) {
                    play.due("undo()", left);
                }
                return play;
            }, Play.STATE, "undo()");
        });
        Play.edge("section 5: each kind of change can be undone", () -> {
            for (String call : KINDS) {
                Play play = ready();
                String before = Everything.shown(play.ring);
                Checks.dueTrue(call + " succeeds", play.answer(call) >= 0);
                play.due("undo()", 4);
                Checks.due("the game after undo of " + call, Everything.shown(play.ring), before);
                play.due("undo()", 3);
            }
        });
        Play.edge("section 5: each kind of change counts, even if it changes nothing", () -> {
            for (String call : KINDS) {
                Play play = ready();
                play.answer(call);
                play.due("setTurn(2)", play.answer("count(1)")).due("undo()", 5).due("undo()", 4);
            }
            Play.fresh().due("setTurn(1)", 1).due("setPeriod(0)", 0).due("rotateCaps()", 0).due("save(0)", 0)
                    .due("restore(0)", 0).due("undo()", 3).due("undo()", 2).due("undo()", 1).due("undo()", 0);
        });
        Play.edge("section 5: nothing else is a change, a text with an error least of all", () -> {
            for (String call : NO_CHANGES) {
                Play play = ready();
                Checks.dueTrue(call + " answers", !Checks.callWritten(play.ring, call).startsWith("throws"));
                play.due("undo()", 3);
            }
        });
        Play.edge("section 5: a refused call is no change", () -> {
            String[] refused = {"carry(2, 0, 1)", "roll(2)", "drop(4)", "setTurn(0)", "setPeriod(21)", "restore(2)",
                "load(41)", "save(2)"};
            for (String call : refused) {
                Play play = ready();
                Checks.dueTrue(call + " throws", Checks.callWritten(play.ring, call).startsWith("throws"));
                play.due("undo()", 3);
            }
        });
        Play.edge("section 5: the latest 8 changes can be undone, older ones not", () -> {
            for (int made = 1; made <= 20; made++) {
                Play play = Play.fresh();
                for (int period = 1; period <= made; period++) {
                    play.due("setPeriod(" + period + ")", period - 1);
                }
                for (int undone = 1; undone <= Math.min(8, made); undone++) {
                    play.due("undo()", Math.min(8, made) - undone).due("count(3)", made - undone);
                }
                play.due("undo()", Play.STATE).due("count(3)", Math.max(0, made - 8));
            }
        });
        Play.edge("27: the latest change that has not been undone, changes behind undone ones", () -> {
            Play play = Play.fresh();
            for (int period = 1; period <= 9; period++) {
                play.due("setPeriod(" + period + ")", period - 1);
            }
            play.due("undo()", 7).due("undo()", 6).due("undo()", 5).due("count(3)", 6);
            play.due("setPeriod(17)", 6).due("setPeriod(18)", 17).due("undo()", 6).due("count(3)", 17);
            play.due("setPeriod(19)", 17).due("setPeriod(20)", 19).due("setPeriod(0)", 20);
            int[] back = {20, 19, 17, 6, 5, 4, 3, 2};
            for (int undone = 0; undone < back.length; undone++) {
                play.due("undo()", 7 - undone).due("count(3)", back[undone]);
            }
            play.due("undo()", Play.STATE).due("setPeriod(1)", 2).due("undo()", 0).due("count(3)", 2);
        });
    }

    private static void undoing() {
        Play.edge("section 5: undo brings back the positions that count for repetitions", () -> {
            String[] calls = {"carry(1, 0, 1)", "setTurn(1)", "setPeriod(0)", "rotateCaps()", "restore(0)"};
            for (String call : calls) {
                Play play = Play.of(CAPS + "stack 0 a; stack 2 b;").due("save(0)", 2).due("carry(0, 0, 1)", 0)
                        .due("carry(2, 0, 1)", 0);
                play.answer(call);
                play.due("undo()", 3).due("carry(1, 1, 1)", 0).due("reason(311)", 5);
            }
            Play.of(CAPS + "stack 0 aa; stack 1 bb;").due("roll(0)", 1).load(CAPS, 0).due("undo()", 2).due("reason(2001)", 5);
        });
        Play.edge("section 5: the position behind an undone move does not count any more", () -> Play.of(CAPS
                + "stack 0 a; stack 2 b;").due("carry(0, 0, 1)", 0).due("undo()", 1).due("reason(1)", 0)
                .due("carry(0, 0, 1)", 0).due("carry(2, 0, 1)", 0).due("undo()", 2).due("reason(201)", 0));
        Play.edge("section 5: undo brings back positions that 20 newer ones had driven out", () -> {
            Play play = Play.of(caps(10, 3) + "stack 0 a; stack 5 b;");
            for (int step = 0; step < 10; step++) {
                play.due("carry(" + step + ", 0, 1)", 0);
                if (step < 9) {
                    play.due("carry(" + (step + 5) % 10 + ", 0, 1)", 0);
                }
            }
            play.due("reason(401)", 5).due("carry(4, 1, 1)", 0).due("carry(0, 0, 1)", 0).due("undo()", 7).due("undo()", 6)
                    .due("reason(401)", 5);
        });
        Play.edge("section 5: undo does not bring back the text buffer", () -> {
            Play.of(CAPS).fill("caps 2 2 2 2 2;").due("setTurn(2)", 1).due("undo()", 1).due("load(15)", 0).due("count(9)", 10);
            Play.of(CAPS).fill("caps 2 2 2 2 2;").due("undo()", 0).due("load(15)", 0).due("count(9)", 10);
            Play.of(CAPS).due("undo()", 0).due("load(1)", Play.ARGUMENT).due("append(0, 0, 0, 0, 0)", 20);
        });
        Play.edge("section 5: undo does not bring back the position of the error", () -> {
            Play.fresh().load("caps 9", Play.VALUE).load(CAPS, 0).due("undo()", 0).due("errorPosition()", -1);
            Play.of(CAPS).load("caps 9", Play.VALUE).due("undo()", 0).due("errorPosition()", 5);
        });
        Play.edge("section 5: undo does not bring back the written text", () -> {
            Play.of(CAPS + "stack 0 ab;").due("setTurn(2)", 1).due("writeStack(0)", 4).due("undo()", 1)
                    .due("writtenByte(3)", 'b').due("undo()", 0).due("writtenByte(3)", 'b').due("writeStack(0)", 2)
                    .due("writtenByte(2)", Play.INDEX);
        });
        Play.edge("section 5: undo does not bring back the slots", () -> {
            Play.of(CAPS + "stack 0 ab;").due("setTurn(2)", 1).due("save(0)", 2).due("undo()", 1).due("undo()", 0)
                    .due("differing(0)", 1).due("restore(0)", 2).due("count(1)", 2);
            Play.of(CAPS + "stack 0 ab;").due("save(0)", 2).due("setTurn(2)", 1).due("save(0)", 2).due("undo()", 1)
                    .due("restore(0)", 2).due("count(1)", 2);
        });
        Play.edge("27: undo of a load brings back a ring of another size", () -> Play.of(caps(12, 1) + "stack 11 b;")
                .load(caps(5, 8) + "stack 0 aaaa;", 4).due("undo()", 1).due("count(0)", 12).due("cell(11, 2)", 2)
                .due("cell(0, 1)", 0).due("undo()", 0).row("count(", 5, 1, 0, 0, 5, 0, 0, 5, 0, 15)
                .due("cell(11, 2)", Play.INDEX));
    }

    private static void slots() {
        Play.edge("28: the number of pieces on the ring, 0 to 96", () -> {
            Play.fresh().due("save(0)", 0).due("save(1)", 0).due("restore(0)", 0).due("restore(1)", 0);
            StringBuilder text = new StringBuilder(caps(12, 8));
            for (int cell = 0; cell < 12; cell++) {
                text.append("stack").append(cell).append("abababab;");
            }
            Play.of(text.toString()).due("save(1)", 96).load(CAPS + "stack 0 a;", 1).due("save(0)", 1)
                    .due("restore(1)", 96).due("restore(0)", 1).due("count(0)", 5).due("restore(1)", 96).due("count(0)", 12);
        });
        Play.edge("28 to 30: a slot is 0 or 1", () -> {
            String[] numbers = {"-1", "2", "3", String.valueOf(Play.LEAST), String.valueOf(Play.MOST)};
            for (String number : numbers) {
                Play.refused(ChangeEdgeTests::ready, Play.INDEX, "save(" + number + ")", "restore(" + number + ")",
                        "differing(" + number + ")");
                Play.refused(Play::fresh, Play.INDEX, "save(" + number + ")", "restore(" + number + ")",
                        "differing(" + number + ")");
            }
        });
        Play.edge("28: everything that undo would bring back is saved", () -> {
            Play play = ready();
            String before = Everything.shown(play.ring);
            play.due("save(1)", 6).due("load(23)", 0).load("caps 8 8 8 8 8 8; period 1; goal 1; reserve 1 1; turn 2; stack 4 b;", 1)
                    .due("carry(4, 0, 1)", 0).due("restore(1)", 6);
            Checks.due("the restored game", Everything.shown(play.ring), before);
        });
        Play.edge("28: in place of what was there, and not in the other slot", () -> Play.of(CAPS + "stack 0 a;")
                .due("save(0)", 1).due("save(1)", 1).load(CAPS + "stack 0 a; stack 1 b;", 2).due("save(0)", 2)
                .due("differing(0)", 0).due("differing(1)", 1).due("restore(1)", 1).due("restore(0)", 2));
        Play.edge("28: saving is no change", () -> Play.of(CAPS).due("save(0)", 0).due("save(1)", 0).due("undo()", 0)
                .due("undo()", Play.STATE));
        Play.edge("28: what is played later is not in the slot", () -> Play.of(CAPS + "reserve 3 3; stack 0 ab; stack 1 a;")
                .due("save(0)", 3).due("carry(1, 0, 1)", 0).due("drop(0)", 2).due("rotateCaps()", 0).due("setTurn(2)", 1)
                .due("setPeriod(3)", 0).due("restore(0)", 3).row("count(", 5, 1, 0, 0, 5, 0, 3, 3, 2, 15)
                .stacks("3 ab", "3 a", "3 ").due("player(2, 1)", 3));
        Play.edge("29: a slot keeps what was saved in it", () -> {
            Play play = Play.of(CAPS + "reserve 3 3; stack 0 ba; stack 1 a;").due("save(0)", 3);
            for (int times = 0; times < 3; times++) {
                play.due("restore(0)", 3).due("roll(0)", 2).due("drop(0)", 2).due("differing(0)", 1);
            }
            play.due("restore(0)", 3).stacks("3 ba", "3 a").due("count(2)", 0);
        });
        Play.edge("29: nothing was saved there", () -> {
            Play.refused(Play::fresh, Play.STATE, "restore(0)", "restore(1)");
            Play.refused(() -> Play.of(CAPS).due("save(1)", 0), Play.STATE, "restore(0)");
            Play.refused(() -> Play.of(CAPS).due("save(0)", 0), Play.STATE, "restore(1)");
        });
        Play.edge("29: the positions are brought back too", () -> Play.of(CAPS + "stack 0 aa; stack 1 bb;")
                .due("roll(0)", 1).due("save(0)", 4).due("setTurn(2)", 2).due("reason(2001)", 0).due("save(1)", 4)
                .due("restore(0)", 4).due("reason(2001)", 5).due("restore(1)", 4).due("reason(2001)", 0)
                .due("undo()", 4).due("reason(2001)", 5).due("undo()", 3).due("reason(2001)", 0));
        Play.edge("29: the texts stay, and the changes before can still be undone", () -> Play.of(CAPS + "stack 0 ab;")
                .due("save(0)", 2).due("writeStack(0)", 4).load("caps 9", Play.VALUE).fill(CAPS).due("restore(0)", 2)
                .due("writtenByte(3)", 'b').due("errorPosition()", 5).due("load(15)", 0).due("undo()", 2).due("undo()", 1)
                .due("undo()", 0));
    }

    private static void differences() {
        Play.edge("30: none, one or all of the cells", () -> {
            for (int cells = 5; cells <= 12; cells += 7) {
                StringBuilder text = new StringBuilder(caps(cells, 2));
                Play play = Play.of(text.toString()).due("save(0)", 0).due("differing(0)", 0);
                for (int cell = 0; cell < cells; cell++) {
                    play.load(caps(cells, 2) + stack(cell, "a"), 1).due("differing(0)", 1);
                    text.append(stack(cell, cell % 2 == 0 ? "a" : "b"));
                    play.load(text.toString(), cell + 1).due("differing(0)", cell + 1);
                }
            }
        });
        Play.edge("30: stacks differ in height, in a player, or in order", () -> {
            String[] others = {"", "a", "b", "ab", "aab", "abb", "bba", "abab", "aba", "babab", "baba"};
            Play play = Play.of(caps(5, 8) + "stack 4 bab;").due("save(1)", 3);
            for (String other : others) {
                play.load(caps(5, 8) + stack(4, other), other.length()).due("differing(1)", 1);
            }
            play.load(caps(5, 8) + "stack 4 bab;", 3).due("differing(1)", 0);
        });
        Play.edge("30: nothing but the stacks counts", () -> Play.of(CAPS + "stack 0 a; stack 1 ab;").due("save(0)", 3)
                .load("caps 8 7 6 5 4; period 3; goal 3; reserve 3 3; turn 2; stack 1 ab; stack 0 a;", 3)
                .due("differing(0)", 0));
        Play.edge("30: the cell of a stack counts", () -> Play.of(CAPS + "stack 0 a; stack 1 a;").due("save(0)", 2)
                .due("carry(1, 0, 1)", 0).due("differing(0)", 2));
        Play.edge("30: NONE if nothing was saved there", () -> Play.of(CAPS).due("differing(0)", -1).due("differing(1)", -1)
                .due("save(1)", 0).due("differing(0)", -1).due("differing(1)", 0).due("undo()", 0).due("differing(1)", 0));
        Play.edge("30: NONE if the number of cells differs", () -> {
            for (int cells = 5; cells <= 12; cells++) {
                Play play = Play.of(caps(cells, 1)).due("save(0)", 0);
                for (int other = 5; other <= 12; other++) {
                    play.load(caps(other, 1), 0).due("differing(0)", cells == other ? 0 : -1);
                }
            }
        });
    }

    /** Calls that throw, one for each exception of each method, in games of several kinds. */
    private static void exceptions() {
        String[] always = {"load(-1)", "load(301)", "count(10)", "cell(12, 0)", "cell(0, 5)", "piece(0, 8)", "piece(12, 0)",
            "player(3, 0)", "player(1, 6)", "highest(3)", "reason(5)", "carry(12, 0, 1)", "carry(0, 2, 1)", "carry(0, 0, 5)",
            "roll(12)", "drop(12)", "move(-1)", "move(120)", "would(12, 0, 1, 0)", "would(0, 0, 1, 4)", "threats(12)",
            "reach(12)", "result(5, 1)", "best(3)", "answers(5)", "setTurn(3)", "setPeriod(21)", "writeStack(12)",
            "writtenByte(10)", "save(2)", "restore(2)", "differing(2)"};
        Play.edge("section 6: a method that throws an exception changes nothing", () -> {
            for (Supplier<Play> maker : List.<Supplier<Play>>of(Play::fresh, ChangeEdgeTests::ready)) {
                for (String call : always) {
                    String answer = Checks.callWritten(maker.get().ring, call);
                    Checks.dueTrue(call + " throws, it answered " + answer, answer.startsWith("throws"));
                    Play.changesNothing(maker, call);
                }
            }
            Play.refused(() -> ready().due("roll(0)", 2).due("setTurn(1)", 2), Play.STATE, "carry(0, 0, 1)", "roll(2)",
                    "drop(0)", "would(2, 0, 1, 0)", "result(1, 1)", "answers(1)");
            Play.refused(() -> Play.of(CAPS).fill(CAPS + " ".repeat(285)), Play.STATE, "append(0, 0, 0, 0, 0)");
        });
        Play.edge("section 6: of several exceptions that apply the one named first is thrown", () -> {
            Play play = Play.fresh();
            play.all(Play.INDEX, "cell(5, 5)", "piece(5, 0)", "carry(5, 2, 1)", "carry(5, 0, 1)", "carry(5, 0, 5)",
                    "roll(5)", "drop(5)", "would(5, 2, 1, 0)", "would(5, 0, 1, 0)", "would(5, 0, 1, 4)", "restore(2)");
            play.all(Play.ARGUMENT, "highest(3)", "carry(0, 2, 1)", "carry(0, 0, 5)", "would(0, 2, 1, 0)",
                    "would(0, 0, 5, 0)", "would(0, 0, 1, 4)", "result(5, 1)", "result(1, 3)", "best(3)", "answers(5)");
            play.all(Play.STATE, "carry(0, 0, 1)", "roll(0)", "drop(0)", "would(0, 0, 1, 0)", "result(1, 1)", "answers(1)",
                    "restore(0)", "undo()").all(Play.ELEMENT, "highest(1)", "best(1)");
        });
        Play.edge("an object is used for 512 calls", () -> {
            Play play = Play.of(caps(12, 8) + "stack 0 aa; stack 6 bb;");
            int changes = 1;
            for (int turn = 0; turn < 100; turn++) {
                changes = Math.min(8, changes + 3);
                play.due("setTurn(1)", turn == 0 ? 1 : 2).due("roll(0)", 1).due("carry(6, 0, 1)", 0).due("undo()", changes - 1)
                        .due("setPeriod(" + turn % 21 + ")", turn == 0 ? 0 : (turn - 1) % 21);
            }
            play.due("count(2)", 100).due("cell(0, 1)", 2).due("cell(6, 1)", 2).due("cell(7, 1)", 0);
        });
    }

    public static void main(String[] args) {
        turns();
        periods();
        rotations();
        changes();
        undoing();
        slots();
        differences();
        exceptions();
        Checks.end();
    }
}
