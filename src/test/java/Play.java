import java.util.function.Supplier;

/** One object and the calls made on it, each with the answer that is due; and tests named by a sentence. */
final class Play {
    static final String INDEX = "throws IndexOutOfBoundsException";
    static final String ARGUMENT = "throws IllegalArgumentException";
    static final String STATE = "throws IllegalStateException";
    static final String ELEMENT = "throws NoSuchElementException";
    static final int LEAST = Integer.MIN_VALUE;
    static final int MOST = Integer.MAX_VALUE;
    static final int SYNTAX = -2;
    static final int VALUE = -3;

    final TowerRing ring = new TowerRing();

    /** A test of its own for one sentence of the document; it has to look at something. */
    static void edge(String sentence, Runnable test) {
        Checks.begin(sentence);
        int before = Checks.checkedSoFar();
        test.run();
        Checks.dueTrue("the test looks at something", Checks.checkedSoFar() > before);
    }

    static Play fresh() {
        return new Play();
    }

    static Play of(String text) {
        Play play = new Play();
        String answer = Checks.load(play.ring, text);
        Checks.dueTrue("load of \"" + text + "\" answered " + answer, answer.matches("[0-9]+"));
        return play;
    }

    Play due(String call, int want) {
        Checks.due(ring, call, want);
        return this;
    }

    Play due(String call, String want) {
        Checks.due(ring, call, want);
        return this;
    }

    /** The same answer from several calls. */
    Play all(String want, String... calls) {
        for (String call : calls) {
            due(call, want);
        }
        return this;
    }

    Play all(int want, String... calls) {
        return all(String.valueOf(want), calls);
    }

    Play fill(String text) {
        Checks.fill(ring, text);
        return this;
    }

    /** Appends a text and loads all of it. */
    Play load(String text, int want) {
        Checks.due("load of \"" + text + "\"", Checks.load(ring, text), String.valueOf(want));
        return this;
    }

    /** What writeStack writes for the first cells. */
    Play stacks(String... want) {
        for (int cell = 0; cell < want.length; cell++) {
            Checks.due("stack " + cell, Checks.stack(ring, cell), want[cell]);
        }
        return this;
    }

    /** The answers of one method to the whats from 0 on; the call ends before the what. */
    Play row(String call, int... want) {
        for (int what = 0; what < want.length; what++) {
            due(call + what + ")", want[what]);
        }
        return this;
    }

    int answer(String call) {
        return Integer.parseInt(Checks.callWritten(ring, call));
    }

    /** A call changes nothing that any later call could tell: twins are compared, one of them without the call. */
    static void changesNothing(Supplier<Play> maker, String call) {
        for (int part = 0; part < Everything.PARTS; part++) {
            Play without = maker.get();
            Play with = maker.get();
            Checks.callWritten(with.ring, call);
            Checks.due("part " + part + " of everything behind " + call, Everything.told(with.ring, part),
                    Everything.told(without.ring, part));
        }
    }

    static void refused(Supplier<Play> maker, String want, String... calls) {
        for (String call : calls) {
            maker.get().due(call, want);
            changesNothing(maker, call);
        }
    }
}
