import java.nio.charset.StandardCharsets;

/** The example of README.md: a game is read, played, undone, saved and brought back. */
public final class ReadmeExample {
    private ReadmeExample() {
    }

    public static void main(String[] args) {
        TowerRing ring = new TowerRing();
        System.out.println("a wrong text: " + load(ring, "caps 3 3 9 3 3;") + " at byte " + ring.errorPosition());
        int pieces = load(ring, "caps 3 3 2 3 3 3; period 4; goal 3; reserve 1 1; stack 0 bba; stack 1 b; stack 3 aab;");
        System.out.println(pieces + " pieces: " + stacks(ring));

        ring.save(0);
        System.out.println("player " + ring.count(1) + " has " + ring.moves() + " moves, the first is " + ring.move(0));
        System.out.println("one piece clockwise from cell 0 would steal " + ring.would(0, 0, 1, 1));
        System.out.println("it steals " + ring.carry(0, 0, 1) + ": " + stacks(ring));
        System.out.println("prisoners: " + ring.player(1, 2) + " and " + ring.player(2, 2));

        int code = ring.best(2);
        System.out.println("player 2 plays " + code + ", which answers " + play(ring, code) + ": " + stacks(ring));
        System.out.println("a drop on cell 3 is refused for reason " + ring.reason(3003));
        try {
            ring.drop(3);
        } catch (IllegalStateException refused) {
            System.out.println("so it throws, and nothing changes: " + stacks(ring));
        }

        System.out.println("stacks that differ from the saved ones: " + ring.differing(0));
        System.out.println("undone, " + ring.undo() + " changes can still be undone: " + stacks(ring));
        System.out.println("brought back, " + ring.restore(0) + " pieces: " + stacks(ring));
    }

    /** Appends a text, filled up by spaces to whole calls, and loads it: the pieces, or an error code below 0. */
    private static int load(TowerRing ring, String text) {
        byte[] bytes = text.getBytes(StandardCharsets.ISO_8859_1);
        for (int from = 0; from < bytes.length; from += 20) {
            int[] fours = new int[5];
            for (int i = 0; i < 20; i++) {
                int next = from + i < bytes.length ? bytes[from + i] & 255 : ' ';
                fours[i / 4] = fours[i / 4] << 8 | next;
            }
            ring.append(fours[0], fours[1], fours[2], fours[3], fours[4]);
        }
        return ring.load(bytes.length);
    }

    /** Makes the move with a code, as move, best and reason tell it. */
    private static int play(TowerRing ring, int code) {
        if (code >= 3000) {
            return ring.drop(code - 3000);
        }
        if (code >= 2000) {
            return ring.roll(code - 2000);
        }
        return ring.carry(code / 100, code / 10 % 10, code % 10);
    }

    /** Cap and pieces of all cells, as writeStack writes them. */
    private static String stacks(TowerRing ring) {
        StringBuilder text = new StringBuilder();
        for (int cell = 0; cell < ring.count(0); cell++) {
            int length = ring.writeStack(cell);
            text.append('[');
            for (int index = 0; index < length; index++) {
                text.append((char) ring.writtenByte(index));
            }
            text.append(']');
        }
        return text.toString();
    }
}
