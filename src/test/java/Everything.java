/** All that later calls can tell of an object, in parts, as telling one part may spoil the others. */
final class Everything {
    static final int PARTS = 4;
    private static final int LONGEST_TEXT = 300;

    private Everything() {
    }

    static String told(TowerRing ring, int part) {
        switch (part) {
            case 0: return shown(ring) + texts(ring) + changes(ring);
            case 1: return buffer(ring);
            case 2: return slot(ring, 0);
            default: return slot(ring, 1);
        }
    }

    /** The game and, by the reasons of all moves, the positions that count. */
    static String shown(TowerRing ring) {
        StringBuilder text = new StringBuilder(Checks.view(ring)).append(" reasons");
        int cells = Integer.parseInt(Checks.call(ring, "count", 0));
        for (int cell = 0; cell < cells; cell++) {
            for (int k = 1; k <= 4; k++) {
                text.append(' ').append(Checks.call(ring, "reason", 100 * cell + k));
                text.append(Checks.call(ring, "reason", 100 * cell + 10 + k));
            }
            text.append(Checks.call(ring, "reason", 2000 + cell)).append(Checks.call(ring, "reason", 3000 + cell));
        }
        return text.toString();
    }

    private static String texts(TowerRing ring) {
        StringBuilder text = new StringBuilder("\nerror at ").append(Checks.call(ring, "errorPosition"));
        text.append(" written");
        for (int index = 0; index < 12; index++) {
            text.append(' ').append(Checks.call(ring, "writtenByte", index));
        }
        for (int slot = 0; slot < 2; slot++) {
            text.append(" differing ").append(Checks.call(ring, "differing", slot));
        }
        return text.toString();
    }

    /** The games that undo brings back, one after the other. */
    private static String changes(TowerRing ring) {
        StringBuilder text = new StringBuilder();
        for (int undone = 0; undone < 10; undone++) {
            text.append("\nundo ").append(Checks.call(ring, "undo")).append(' ').append(shown(ring));
        }
        return text.toString();
    }

    /** The length of the buffer, and what load makes of its bytes. */
    private static String buffer(TowerRing ring) {
        int length = LONGEST_TEXT;
        String answer = Checks.call(ring, "load", length);
        while (answer.startsWith("throws") && length > 0) {
            length--;
            answer = Checks.call(ring, "load", length);
        }
        return length + " bytes, load " + answer + " at " + Checks.call(ring, "errorPosition") + "\n" + shown(ring)
                + " then " + Checks.call(ring, "append", 0, 0, 0, 0, 0);
    }

    private static String slot(TowerRing ring, int slot) {
        return "restore " + Checks.call(ring, "restore", slot) + "\n" + shown(ring);
    }
}
