import java.nio.charset.StandardCharsets;
import java.util.ArrayList;
import java.util.Arrays;
import java.util.Collections;
import java.util.HashMap;
import java.util.List;
import java.util.Map;
import java.util.NoSuchElementException;
import java.util.TreeMap;
import java.util.regex.Matcher;
import java.util.regex.Pattern;

/** A second TowerRing, written from the document with lists and texts, to compare the answers. */
final class SlowTowerRing {

    static final class State {
        List<List<Integer>> stacks = new ArrayList<>();
        List<Integer> caps = new ArrayList<>();
        Map<String, Integer> numbers = new TreeMap<>();
        List<String> positions = new ArrayList<>();

        State copy() {
            State copy = new State();
            for (List<Integer> stack : stacks) {
                copy.stacks.add(new ArrayList<>(stack));
            }
            copy.caps.addAll(caps);
            copy.numbers.putAll(numbers);
            copy.positions.addAll(positions);
            return copy;
        }

        int get(String name) {
            return numbers.get(name);
        }

        void put(String name, int value) {
            numbers.put(name, value);
        }

        int turn() {
            return get("turn");
        }

        int owner(int cell) {
            List<Integer> stack = stacks.get(cell);
            return stack.isEmpty() ? 0 : stack.get(stack.size() - 1);
        }

        int guard(int cell) {
            List<Integer> reversed = new ArrayList<>(stacks.get(cell));
            Collections.reverse(reversed);
            int guard = 0;
            for (int piece : reversed) {
                if (piece != owner(cell)) {
                    break;
                }
                guard++;
            }
            return guard;
        }

        int winner() {
            return get("prisoners1") >= get("goal") ? 1 : get("prisoners2") >= get("goal") ? 2 : 0;
        }

        int controlled(int player) {
            int sum = 0;
            for (int cell = 0; cell < stacks.size(); cell++) {
                sum += owner(cell) == player ? 1 : 0;
            }
            return sum;
        }

        int value(int player) {
            return 3 * get("prisoners" + player) - 3 * get("prisoners" + (3 - player))
                    + controlled(player) - controlled(3 - player);
        }

        String position() {
            return stacks + " " + caps + " " + get("reserve1") + " " + get("reserve2") + " " + turn();
        }

        void anew() {
            positions.clear();
            positions.add(position());
        }

        List<String> latest() {
            return positions.subList(Math.max(0, positions.size() - 20), positions.size());
        }

        int pieces() {
            return stacks.stream().mapToInt(List::size).sum();
        }

        int settle(int cell) {
            List<Integer> stack = stacks.get(cell);
            int excess = stack.size() - caps.get(cell);
            if (excess <= 0) {
                return 0;
            }
            int next = (cell + 1) % stacks.size();
            for (int i = 0; i < excess; i++) {
                stacks.get(next).add(stack.remove(0));
            }
            return 1 + settle(next);
        }

        void rotate() {
            Collections.rotate(caps, 1);
            for (int cell = 0; cell < stacks.size(); cell++) {
                settle(cell);
            }
        }

        int target(int cell, int direction, int k) {
            return Math.floorMod(direction == 0 ? cell + k : cell - k, stacks.size());
        }

        /** Answers the stolen pieces and how many cells gave pieces away. */
        int[] lift(int cell, int direction, int k) {
            int player = owner(cell);
            List<Integer> from = stacks.get(cell);
            int target = target(cell, direction, k);
            List<Integer> to = stacks.get(target);
            List<Integer> carried = new ArrayList<>(from.subList(from.size() - k, from.size()));
            from.subList(from.size() - k, from.size()).clear();
            int stolen = 0;
            if (owner(target) == 3 - player && guard(target) <= k) {
                stolen = guard(target);
                to.subList(to.size() - stolen, to.size()).clear();
            }
            to.addAll(carried);
            return new int[] {stolen, settle(target)};
        }

        /** Answers the stolen pieces. */
        int play(int code) {
            int player = turn();
            int stolen = 0;
            if (code >= 3000) {
                stacks.get(code - 3000).add(player);
                put("reserve" + player, get("reserve" + player) - 1);
            } else if (code >= 2000) {
                Collections.rotate(stacks.get(code - 2000), 1);
            } else {
                stolen = lift(code / 100, code % 100 / 10, code % 10)[0];
                put("prisoners" + player, get("prisoners" + player) + stolen);
            }
            put("moves", get("moves") + 1);
            if (get("period") > 0 && get("moves") % get("period") == 0) {
                rotate();
            }
            put("turn", 3 - player);
            positions.add(position());
            return stolen;
        }

        int reason(int code) {
            int player = turn();
            if (winner() != 0) {
                return 1;
            }
            int cell = code >= 3000 ? code - 3000 : code >= 2000 ? code - 2000 : code / 100;
            int height = stacks.get(cell).size();
            if (code >= 3000) {
                if (owner(cell) == 3 - player) {
                    return 2;
                }
                if (height >= caps.get(cell)) {
                    return 3;
                }
                if (get("reserve" + player) == 0) {
                    return 4;
                }
            } else {
                if (owner(cell) != player) {
                    return 2;
                }
                if (height < (code >= 2000 ? 2 : code % 10)) {
                    return 3;
                }
            }
            State after = copy();
            after.play(code);
            return latest().contains(after.position()) ? 5 : 0;
        }

        List<Integer> codes() {
            List<Integer> codes = new ArrayList<>();
            for (int code = 0; code < 4000; code++) {
                if (isCode(code, stacks.size())) {
                    codes.add(code);
                }
            }
            return codes;
        }

        List<Integer> open() {
            List<Integer> open = new ArrayList<>();
            for (int code : codes()) {
                if (reason(code) == 0) {
                    open.add(code);
                }
            }
            return open;
        }

        int result(int code, int depth) {
            State after = copy();
            after.play(code);
            List<Integer> values = new ArrayList<>();
            if (depth == 2) {
                for (int answer : after.open()) {
                    State last = after.copy();
                    last.play(answer);
                    values.add(last.value(turn()));
                }
            }
            return values.isEmpty() ? after.value(turn()) : Collections.min(values);
        }
    }

    static boolean isCode(int code, int cells) {
        for (int cell = 0; cell < cells; cell++) {
            if (code == 2000 + cell || code == 3000 + cell) {
                return true;
            }
            for (int k = 1; k <= 4; k++) {
                if (code == 100 * cell + k || code == 100 * cell + 10 + k) {
                    return true;
                }
            }
        }
        return false;
    }

    private State now = fresh(List.of(3, 3, 3, 3, 3));
    private final List<State> past = new ArrayList<>();
    private final Map<Integer, State> slots = new HashMap<>();
    private String buffer = "";
    private String written = "";
    private int errorPosition = -1;

    SlowTowerRing() {
        now.anew();
    }

    private static State fresh(List<Integer> caps) {
        State state = new State();
        for (int cap : caps) {
            state.caps.add(cap);
            state.stacks.add(new ArrayList<>());
        }
        state.numbers.putAll(Map.of("turn", 1, "moves", 0, "period", 0, "goal", 5, "reserve1", 0, "reserve2", 0,
                "prisoners1", 0, "prisoners2", 0));
        return state;
    }

    private void change() {
        past.add(now.copy());
        if (past.size() > 8) {
            past.remove(0);
        }
    }

    private void needCell(int cell) {
        if (cell < 0 || cell >= now.stacks.size()) {
            throw new IndexOutOfBoundsException();
        }
    }

    private static void need(boolean holds) {
        if (!holds) {
            throw new IllegalArgumentException();
        }
    }

    private static void allow(boolean holds) {
        if (!holds) {
            throw new IllegalStateException();
        }
    }

    private static void exists(boolean holds) {
        if (!holds) {
            throw new IndexOutOfBoundsException();
        }
    }

    int append(int a, int b, int c, int d, int e) {
        allow(buffer.length() + 20 <= 300);
        for (int four : new int[] {a, b, c, d, e}) {
            byte[] bytes = {(byte) (four >>> 24), (byte) (four >>> 16), (byte) (four >>> 8), (byte) four};
            buffer += new String(bytes, StandardCharsets.ISO_8859_1);
        }
        return buffer.length();
    }

    /** Thrown where a text has its first error. */
    static final class TextError extends RuntimeException {
        private static final long serialVersionUID = 1;
        final int code;
        final int position;

        TextError(int code, int position) {
            this.code = code;
            this.position = position;
        }
    }

    /** The tokens of a text with their places. */
    static final class Tokens {
        final List<String> texts = new ArrayList<>();
        final List<Integer> places = new ArrayList<>();
        int at = 0;

        Tokens(String text) {
            Matcher matcher = Pattern.compile(" *([a-z]+|[0-9]+|[^ ])", Pattern.DOTALL).matcher(text);
            while (matcher.find()) {
                texts.add(matcher.group(1));
                places.add(matcher.start(1));
            }
            texts.add("");
            places.add(text.length());
        }

        String peek() {
            return texts.get(at);
        }

        int place() {
            return places.get(at);
        }

        boolean isNumber() {
            return peek().matches("[0-9]+");
        }

        void expect(String token) {
            if (!peek().equals(token)) {
                throw new TextError(-2, place());
            }
            at++;
        }

        int number(int least, int most) {
            if (!isNumber()) {
                throw new TextError(-2, place());
            }
            java.math.BigInteger value = new java.math.BigInteger(peek());
            if (value.compareTo(java.math.BigInteger.valueOf(least)) < 0
                    || value.compareTo(java.math.BigInteger.valueOf(most)) > 0) {
                throw new TextError(-3, place());
            }
            at++;
            return value.intValue();
        }
    }

    private static State parse(String text) {
        Tokens tokens = new Tokens(text);
        tokens.expect("caps");
        List<Integer> caps = new ArrayList<>();
        while (caps.size() < 5 || caps.size() < 12 && tokens.isNumber()) {
            caps.add(tokens.number(1, 8));
        }
        tokens.expect(";");
        State state = fresh(caps);
        List<String> options = Arrays.asList("period", "goal", "reserve", "turn");
        while (options.contains(tokens.peek())) {
            String option = tokens.peek();
            tokens.at++;
            switch (option) {
                case "period": state.put("period", tokens.number(0, 20)); break;
                case "goal": state.put("goal", tokens.number(1, 40)); break;
                case "turn": state.put("turn", tokens.number(1, 2)); break;
                default:
                    state.put("reserve1", tokens.number(0, 20));
                    state.put("reserve2", tokens.number(0, 20));
            }
            tokens.expect(";");
        }
        while (!tokens.peek().isEmpty()) {
            tokens.expect("stack");
            parseStack(tokens, state);
            tokens.expect(";");
        }
        return state;
    }

    private static void parseStack(Tokens tokens, State state) {
        int place = tokens.place();
        int cell = tokens.number(0, state.caps.size() - 1);
        if (!state.stacks.get(cell).isEmpty()) {
            throw new TextError(-3, place);
        }
        String letters = tokens.peek();
        if (!letters.matches("[a-z]+")) {
            throw new TextError(-2, tokens.place());
        }
        if (!letters.matches("[ab]+") || letters.length() > state.caps.get(cell)) {
            throw new TextError(-3, tokens.place());
        }
        for (char letter : letters.toCharArray()) {
            state.stacks.get(cell).add(letter == 'a' ? 1 : 2);
        }
        tokens.at++;
    }

    int load(int length) {
        need(length >= 0 && length <= buffer.length());
        String text = buffer.substring(0, length);
        buffer = "";
        try {
            State read = parse(text);
            change();
            now = read;
            now.anew();
            errorPosition = -1;
            return now.pieces();
        } catch (TextError e) {
            errorPosition = e.position;
            return e.code;
        }
    }

    int errorPosition() {
        return errorPosition;
    }

    int count(int what) {
        need(what >= 0 && what <= 9);
        int[] numbers = {now.stacks.size(), now.turn(), now.get("moves"), now.get("period"), now.get("goal"),
            now.winner(), now.pieces(), now.controlled(0),
            now.stacks.stream().mapToInt(List::size).max().getAsInt(),
            now.caps.stream().mapToInt(Integer::intValue).sum()};
        return numbers[what];
    }

    int cell(int cell, int what) {
        needCell(cell);
        need(what >= 0 && what <= 4);
        List<Integer> stack = now.stacks.get(cell);
        int[] numbers = {now.caps.get(cell), stack.size(), now.owner(cell), now.guard(cell),
            Collections.frequency(stack, 1)};
        return numbers[what];
    }

    int piece(int cell, int piece) {
        needCell(cell);
        exists(piece >= 0 && piece < now.stacks.get(cell).size());
        return now.stacks.get(cell).get(piece);
    }

    int player(int player, int what) {
        need(player == 1 || player == 2);
        need(what >= 0 && what <= 5);
        int owned = 0;
        int covered = 0;
        for (List<Integer> stack : now.stacks) {
            for (int i = 0; i < stack.size(); i++) {
                if (stack.get(i) == player) {
                    owned++;
                    covered += stack.subList(i, stack.size()).contains(3 - player) ? 1 : 0;
                }
            }
        }
        int[] numbers = {owned, now.get("reserve" + player), now.get("prisoners" + player), now.controlled(player),
            covered, now.value(player)};
        return numbers[what];
    }

    int highest(int player) {
        need(player == 1 || player == 2);
        for (int height = 8; height > 0; height--) {
            for (int cell = 0; cell < now.stacks.size(); cell++) {
                if (now.stacks.get(cell).size() == height && now.owner(cell) == player) {
                    return cell;
                }
            }
        }
        throw new NoSuchElementException();
    }

    int reason(int code) {
        need(isCode(code, now.stacks.size()));
        return now.reason(code);
    }

    private int make(int code) {
        allow(now.reason(code) == 0);
        change();
        return now.play(code);
    }

    int carry(int cell, int direction, int k) {
        needCell(cell);
        need(direction == 0 || direction == 1);
        need(k >= 1 && k <= 4);
        return make(100 * cell + 10 * direction + k);
    }

    int roll(int cell) {
        needCell(cell);
        make(2000 + cell);
        return now.owner(cell);
    }

    int drop(int cell) {
        needCell(cell);
        make(3000 + cell);
        return now.get("reserve" + (3 - now.turn()));
    }

    int moves() {
        return now.open().size();
    }

    int move(int index) {
        List<Integer> open = now.open();
        exists(index >= 0 && index < open.size());
        return open.get(index);
    }

    int would(int cell, int direction, int k, int what) {
        needCell(cell);
        need(direction == 0 || direction == 1);
        need(k >= 1 && k <= 4);
        need(what >= 0 && what <= 3);
        allow(now.stacks.get(cell).size() >= k);
        State after = now.copy();
        int[] lifted = after.lift(cell, direction, k);
        int target = now.target(cell, direction, k);
        int[] numbers = {target, lifted[0], lifted[1], after.owner(target)};
        return numbers[what];
    }

    int threats(int cell) {
        needCell(cell);
        int threats = 0;
        for (int code : now.codes()) {
            int from = code / 100;
            int k = code % 10;
            if (code < 2000 && now.owner(cell) != 0 && now.owner(from) == 3 - now.owner(cell)
                    && now.stacks.get(from).size() >= k && now.target(from, code % 100 / 10, k) == cell) {
                threats += now.copy().lift(from, code % 100 / 10, k)[0] > 0 ? 1 : 0;
            }
        }
        return threats;
    }

    int reach(int cell) {
        needCell(cell);
        int mask = 0;
        for (int k = 1; k <= Math.min(4, now.stacks.get(cell).size()); k++) {
            mask |= 1 << now.target(cell, 0, k);
            mask |= 1 << now.target(cell, 1, k);
        }
        return mask;
    }

    int result(int code, int depth) {
        need(isCode(code, now.stacks.size()));
        need(depth == 1 || depth == 2);
        allow(now.reason(code) == 0);
        return now.result(code, depth);
    }

    int best(int depth) {
        need(depth == 1 || depth == 2);
        Map<Integer, Integer> first = new TreeMap<>();
        for (int code : now.open()) {
            first.putIfAbsent(-now.result(code, depth), code);
        }
        if (first.isEmpty()) {
            throw new NoSuchElementException();
        }
        return first.values().iterator().next();
    }

    int answers(int code) {
        need(isCode(code, now.stacks.size()));
        allow(now.reason(code) == 0);
        State after = now.copy();
        after.play(code);
        return after.open().size();
    }

    int setTurn(int player) {
        need(player == 1 || player == 2);
        change();
        int previous = now.turn();
        now.put("turn", player);
        now.anew();
        return previous;
    }

    int setPeriod(int period) {
        need(period >= 0 && period <= 20);
        change();
        int previous = now.get("period");
        now.put("period", period);
        now.anew();
        return previous;
    }

    int rotateCaps() {
        change();
        State before = now.copy();
        now.rotate();
        now.anew();
        int other = 0;
        for (int cell = 0; cell < now.stacks.size(); cell++) {
            other += before.stacks.get(cell).size() == now.stacks.get(cell).size() ? 0 : 1;
        }
        return other;
    }

    int writeStack(int cell) {
        needCell(cell);
        written = now.caps.get(cell) + " ";
        for (int piece : now.stacks.get(cell)) {
            written += piece == 1 ? "a" : "b";
        }
        return written.length();
    }

    int writtenByte(int index) {
        exists(index >= 0 && index < written.length());
        return written.charAt(index);
    }

    int undo() {
        allow(!past.isEmpty());
        now = past.remove(past.size() - 1);
        return past.size();
    }

    int save(int slot) {
        exists(slot == 0 || slot == 1);
        slots.put(slot, now.copy());
        return now.pieces();
    }

    int restore(int slot) {
        exists(slot == 0 || slot == 1);
        allow(slots.containsKey(slot));
        change();
        now = slots.get(slot).copy();
        return now.pieces();
    }

    int differing(int slot) {
        exists(slot == 0 || slot == 1);
        if (!slots.containsKey(slot) || slots.get(slot).stacks.size() != now.stacks.size()) {
            return -1;
        }
        int differing = 0;
        for (int cell = 0; cell < now.stacks.size(); cell++) {
            differing += now.stacks.get(cell).equals(slots.get(slot).stacks.get(cell)) ? 0 : 1;
        }
        return differing;
    }
}
