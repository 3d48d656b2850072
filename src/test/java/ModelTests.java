import java.util.List;
import java.util.Random;

/** Plays the same calls, chosen by fixed seeds, with TowerRing and with the slow model; all answers must agree. */
public final class ModelTests {
    private static final String[] QUERIES = {"count", "cell", "piece", "player", "highest", "reason", "moves", "move",
        "would", "threats", "reach", "result", "best", "answers", "writeStack", "writtenByte", "differing",
        "errorPosition"};
    private static final String[] CHANGES = {"carry", "roll", "drop", "setTurn", "setPeriod", "rotateCaps", "undo",
        "save", "restore", "load", "append"};

    private final Random random;
    private final TowerRing ring = new TowerRing();
    private final SlowTowerRing model = new SlowTowerRing();

    private ModelTests(long seed) {
        random = new Random(seed);
    }

    private int number(int least, int most) {
        return least + random.nextInt(most - least + 1);
    }

    private String compare(String name, int... arguments) {
        String want = Checks.call(model, name, arguments);
        String got = Checks.call(ring, name, arguments);
        Checks.due(name + java.util.Arrays.toString(arguments), got, want);
        return want;
    }

    private void compareView(String after) {
        Checks.due("the game after " + after, Checks.view(ring), Checks.view(model));
    }

    private String randomText() {
        int cells = number(5, 12);
        int most = number(1, 8);
        int[] caps = new int[cells];
        StringBuilder text = new StringBuilder("caps");
        for (int cell = 0; cell < cells; cell++) {
            caps[cell] = number(1, most);
            text.append(' ').append(caps[cell]);
        }
        text.append(';');
        for (int option = number(0, 4); option > 0; option--) {
            switch (number(0, 3)) {
                case 0: text.append(" period ").append(number(0, 4)); break;
                case 1: text.append("goal ").append(number(1, 40)); break;
                case 2: text.append(" reserve ").append(number(0, 20)).append(' ').append(number(0, 3)); break;
                default: text.append("turn").append(number(1, 2));
            }
            text.append(';');
        }
        int full = number(0, 9);
        for (int cell = 0; cell < cells; cell++) {
            if (number(0, 9) < full) {
                text.append(random.nextBoolean() ? " stack " : "stack").append(cell).append(' ');
                for (int piece = number(1, caps[cell]); piece > 0; piece--) {
                    text.append(random.nextBoolean() ? 'a' : 'b');
                }
                text.append(random.nextBoolean() ? ";" : " ;  ");
            }
        }
        return text.toString();
    }

    private String spoiled(String text) {
        StringBuilder spoiled = new StringBuilder(text);
        for (int fault = number(1, 2); fault > 0; fault--) {
            int at = random.nextInt(spoiled.length());
            String signs = "abc0129; \u0000\u00e9s";
            switch (number(0, 3)) {
                case 0: spoiled.deleteCharAt(at); break;
                case 1: spoiled.insert(at, signs.charAt(random.nextInt(signs.length()))); break;
                case 2: spoiled.setCharAt(at, signs.charAt(random.nextInt(signs.length()))); break;
                default: spoiled.setLength(at + 1);
            }
        }
        return spoiled.toString();
    }

    private void load(String text) {
        if (text.length() > 280) {
            return;
        }
        compare("load", 0);
        Checks.fill(ring, text);
        Checks.fill(model, text);
        String answer = compare("load", text.length());
        Checks.due("position in \"" + text + "\" after " + answer, Checks.call(ring, "errorPosition"),
                Checks.call(model, "errorPosition"));
    }

    private void query(String name) {
        int cell = number(-1, 12);
        int code = number(0, 3) * 1000 + number(-1, 11) * (random.nextBoolean() ? 100 : 1) + number(0, 15);
        switch (name) {
            case "count": compare(name, number(-1, 10)); break;
            case "cell": compare(name, cell, number(-1, 5)); break;
            case "piece": compare(name, cell, number(-1, 8)); break;
            case "player": compare(name, number(0, 3), number(-1, 6)); break;
            case "highest": compare(name, number(0, 3)); break;
            case "reason": compare(name, code); break;
            case "answers": compare(name, code); break;
            case "result": compare(name, code, number(0, 2)); break;
            case "best": compare(name, number(0, 1)); break;
            case "move": compare(name, number(-1, 60)); break;
            case "would": compare(name, cell, number(-1, 2), number(0, 5), number(-1, 4)); break;
            case "moves":
            case "errorPosition": compare(name); break;
            case "writtenByte": compare(name, number(-1, 10)); break;
            case "differing": compare(name, number(-1, 2)); break;
            default: compare(name, cell);
        }
    }

    private void change(String name) {
        int cell = number(-1, 12);
        switch (name) {
            case "carry": compare(name, cell, number(-1, 2), number(0, 5)); break;
            case "setTurn": compare(name, number(0, 3)); break;
            case "setPeriod": compare(name, number(-1, 21)); break;
            case "rotateCaps":
            case "undo": compare(name); break;
            case "save":
            case "restore": compare(name, number(-1, 2)); break;
            case "load": compare(name, number(-1, 40)); break;
            case "append":
                compare(name, random.nextInt(), random.nextInt(), random.nextInt(), random.nextInt(), random.nextInt());
                break;
            default: compare(name, cell);
        }
        compareView(name);
    }

    private boolean playOpenMove() {
        int open = Integer.parseInt(compare("moves"));
        if (open == 0) {
            return false;
        }
        int code = Integer.parseInt(compare("move", random.nextInt(open)));
        compare("result", code, 1);
        if (code >= 3000) {
            compare("drop", code - 3000);
        } else if (code >= 2000) {
            compare("roll", code - 2000);
        } else {
            compare("carry", code / 100, code / 10 % 10, code % 10);
        }
        return true;
    }

    /** Any calls, most of them wrong ones among them. */
    private void playAnything(int calls) {
        for (int i = 0; i < calls; i++) {
            int kind = number(0, 9);
            if (kind == 0) {
                load(random.nextInt(3) == 0 ? randomText() : spoiled(randomText()));
                compareView("load");
            } else if (kind < 3) {
                change(CHANGES[random.nextInt(CHANGES.length)]);
            } else if (kind < 6) {
                playOpenMove();
            } else {
                query(QUERIES[random.nextInt(QUERIES.length)]);
            }
        }
    }

    /** A long game of few pieces, in which positions come again. */
    private void playLong(String text, int moves) {
        load(text);
        for (int i = 0; i < moves; i++) {
            if (!playOpenMove()) {
                compare("setTurn", number(1, 2));
            }
            if (number(0, 9) == 0) {
                String name = List.of("undo", "save", "restore").get(random.nextInt(3));
                if (name.equals("undo")) {
                    compare(name);
                } else {
                    compare(name, number(0, 1));
                }
            }
            compare("answers", number(0, 4) * 100 + number(0, 1) * 10 + 1);
            compareView("a move");
        }
    }

    /** Searches in depth 2, on which the model is slow. */
    private void playSearch(int moves) {
        load(randomText());
        for (int i = 0; i < moves; i++) {
            String best = compare("best", 2);
            if (!best.startsWith("throws")) {
                compare("result", Integer.parseInt(best), 2);
                compare("answers", Integer.parseInt(best));
            }
            playOpenMove();
        }
    }

    public static void main(String[] args) {
        String[] longGames = {"caps 2 2 2 2 2; goal 40; stack 0 a; stack 2 b;",
            "caps 1 3 1 3 1; goal 40; period 3; stack 1 ab; stack 3 ba;",
            "caps 2 3 2 1 2 3; goal 40; reserve 1 1; period 7; stack 1 aab; stack 5 bba;",
            "caps 1 1 1 1 1; goal 40; period 1; stack 0 a; stack 3 b;",
            "caps 8 8 8 8 8; goal 40; stack 0 a; stack 2 b;",
            "caps 6 5 8 7 8; goal 40; reserve 17 17; stack 0 aa; stack 2 bb;",
            "caps 1 2 1 2 1 2 1 2 1 2 1 2; goal 40; period 2; stack 9 ab; stack 10 a; stack 11 ba;"};
        for (int seed = 1; seed <= 60; seed++) {
            Checks.begin("model, seed " + seed);
            new ModelTests(seed).playAnything(400);
            new ModelTests(1000 + seed).playLong(longGames[seed % longGames.length], 60);
            new ModelTests(2000 + seed).playSearch(3);
        }
        Checks.end();
    }
}
