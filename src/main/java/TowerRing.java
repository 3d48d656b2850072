import java.util.NoSuchElementException;

/** A board game with towers on a ring. What it does is written down in ../shared/DOC.md. */
public final class TowerRing {
    public static final int NONE = -1;
    public static final int SYNTAX_ERROR = -2;
    public static final int VALUE_ERROR = -3;

    private static final int FEWEST_CELLS = 5;
    private static final int MOST_CELLS = 12;
    private static final int FIRST_CAP = 3;
    private static final int HIGHEST_CAP = 8;
    private static final int LONGEST_CARRY = 4;
    private static final int FIRST_GOAL = 5;
    private static final int HIGHEST_GOAL = 40;
    private static final int LONGEST_PERIOD = 20;
    private static final int LARGEST_RESERVE = 20;
    private static final int PLAYERS = 2;
    private static final int DEEPEST_SEARCH = 2;
    private static final int TEXT_LIMIT = 300;
    private static final int WRITTEN_LIMIT = 2 + HIGHEST_CAP;
    private static final int POSITIONS_KEPT = 20;
    private static final int CHANGES_KEPT = 8;
    private static final int SLOTS = 2;

    private static final int ROLL_CODE = 2000;
    private static final int DROP_CODE = 3000;

    private static final int NOT_REFUSED = 0;
    private static final int GAME_IS_WON = 1;
    private static final int NOT_CONTROLLED = 2;
    private static final int WRONG_HEIGHT = 3;
    private static final int RESERVE_IS_EMPTY = 4;
    private static final int REPEATED = 5;

    private final Game game = new Game();
    private final Search search = new Search();
    private final Changes changes = new Changes();
    private final Game[] slots = new Game[SLOTS];
    private final boolean[] slotIsUsed = new boolean[SLOTS];
    private final GameText text = new GameText();
    private final byte[] written = new byte[WRITTEN_LIMIT];
    private int writtenLength = 0;
    private int latestErrorPosition = NONE;

    public TowerRing() {
        for (int slot = 0; slot < SLOTS; slot++) {
            slots[slot] = new Game();
        }
        game.beginPositions();
    }

    public int append(int a, int b, int c, int d, int e) throws IllegalStateException {
        if (!text.hasRoom()) {
            throw new IllegalStateException("the text buffer is full");
        }
        text.addFourBytes(a);
        text.addFourBytes(b);
        text.addFourBytes(c);
        text.addFourBytes(d);
        text.addFourBytes(e);
        return text.filled;
    }

    public int load(int length) throws IllegalArgumentException {
        if (length < 0 || length > text.filled) {
            throw new IllegalArgumentException("the buffer has no such length");
        }
        boolean isRead = text.readGame(length);
        text.clear();
        if (!isRead) {
            latestErrorPosition = text.errorStart;
            return text.error;
        }
        latestErrorPosition = NONE;
        changes.keep(game);
        game.copyBoard(text.game);
        game.beginPositions();
        return game.ring.countPieces();
    }

    public int errorPosition() {
        return latestErrorPosition;
    }

    public int count(int what) throws IllegalArgumentException {
        switch (what) {
            case 0: return game.ring.size;
            case 1: return game.turn;
            case 2: return game.movesMade;
            case 3: return game.period;
            case 4: return game.goal;
            case 5: return game.winner();
            case 6: return game.ring.countPieces();
            case 7: return game.ring.countControlled(0);
            case 8: return game.ring.greatestHeight();
            case 9: return game.ring.sumOfCaps();
            default: throw new IllegalArgumentException("what is 0 to 9");
        }
    }

    public int cell(int cell, int what) throws IndexOutOfBoundsException, IllegalArgumentException {
        if (!game.ring.hasCell(cell)) {
            throw new IndexOutOfBoundsException("no such cell");
        }
        switch (what) {
            case 0: return game.ring.caps[cell];
            case 1: return game.ring.heights[cell];
            case 2: return game.ring.controllerOf(cell);
            case 3: return game.ring.guardOf(cell);
            case 4: return game.ring.countIn(cell, 1);
            default: throw new IllegalArgumentException("what is 0 to 4");
        }
    }

    public int piece(int cell, int piece) throws IndexOutOfBoundsException {
        if (!game.ring.hasCell(cell) || piece < 0 || piece >= game.ring.heights[cell]) {
            throw new IndexOutOfBoundsException("no such piece");
        }
        return game.ring.ownerOf(cell, piece);
    }

    public int player(int player, int what) throws IllegalArgumentException {
        if (!isPlayer(player)) {
            throw new IllegalArgumentException("a player is 1 or 2");
        }
        switch (what) {
            case 0: return game.ring.countOwned(player);
            case 1: return game.reserves[player];
            case 2: return game.prisoners[player];
            case 3: return game.ring.countControlled(player);
            case 4: return game.ring.countCovered(player);
            case 5: return game.valueFor(player);
            default: throw new IllegalArgumentException("what is 0 to 5");
        }
    }

    public int highest(int player) throws IllegalArgumentException, NoSuchElementException {
        if (!isPlayer(player)) {
            throw new IllegalArgumentException("a player is 1 or 2");
        }
        int cell = game.ring.highestOf(player);
        if (cell == NONE) {
            throw new NoSuchElementException("the player controls no stack");
        }
        return cell;
    }

    public int reason(int code) throws IllegalArgumentException {
        if (!game.hasMove(code)) {
            throw new IllegalArgumentException("no such move");
        }
        return search.refusalOf(game, code);
    }

    public int carry(int cell, int direction, int k)
            throws IndexOutOfBoundsException, IllegalArgumentException, IllegalStateException {
        if (!game.ring.hasCell(cell)) {
            throw new IndexOutOfBoundsException("no such cell");
        }
        if (!isCarry(direction, k)) {
            throw new IllegalArgumentException("direction is 0 or 1, k is 1 to 4");
        }
        int code = 100 * cell + 10 * direction + k;
        if (search.refusalOf(game, code) != NOT_REFUSED) {
            throw new IllegalStateException("the move is refused");
        }
        return makeMove(code);
    }

    public int roll(int cell) throws IndexOutOfBoundsException, IllegalStateException {
        if (!game.ring.hasCell(cell)) {
            throw new IndexOutOfBoundsException("no such cell");
        }
        if (search.refusalOf(game, ROLL_CODE + cell) != NOT_REFUSED) {
            throw new IllegalStateException("the move is refused");
        }
        makeMove(ROLL_CODE + cell);
        return game.ring.controllerOf(cell);
    }

    public int drop(int cell) throws IndexOutOfBoundsException, IllegalStateException {
        if (!game.ring.hasCell(cell)) {
            throw new IndexOutOfBoundsException("no such cell");
        }
        if (search.refusalOf(game, DROP_CODE + cell) != NOT_REFUSED) {
            throw new IllegalStateException("the move is refused");
        }
        int player = game.turn;
        makeMove(DROP_CODE + cell);
        return game.reserves[player];
    }

    public int moves() {
        return search.countMoves(game);
    }

    public int move(int index) throws IndexOutOfBoundsException {
        int code = index < 0 ? NONE : search.moveAt(game, index);
        if (code == NONE) {
            throw new IndexOutOfBoundsException("there are not so many moves");
        }
        return code;
    }

    public int would(int cell, int direction, int k, int what)
            throws IndexOutOfBoundsException, IllegalArgumentException, IllegalStateException {
        if (!game.ring.hasCell(cell)) {
            throw new IndexOutOfBoundsException("no such cell");
        }
        if (!isCarry(direction, k) || what < 0 || what > 3) {
            throw new IllegalArgumentException("direction is 0 or 1, k is 1 to 4, what is 0 to 3");
        }
        if (game.ring.heights[cell] < k) {
            throw new IllegalStateException("the stack has fewer pieces");
        }
        int target = game.ring.targetOf(cell, direction, k);
        int stolen = game.ring.stolenBy(cell, target, k);
        if (what == 0) {
            return target;
        }
        if (what == 1) {
            return stolen;
        }
        Ring behind = search.behind.ring;
        behind.copy(game.ring);
        int giving = behind.bring(cell, target, k, stolen);
        return what == 2 ? giving : behind.controllerOf(target);
    }

    public int threats(int cell) throws IndexOutOfBoundsException {
        if (!game.ring.hasCell(cell)) {
            throw new IndexOutOfBoundsException("no such cell");
        }
        return game.ring.countThreats(cell);
    }

    public int reach(int cell) throws IndexOutOfBoundsException {
        if (!game.ring.hasCell(cell)) {
            throw new IndexOutOfBoundsException("no such cell");
        }
        return game.ring.reachedFrom(cell);
    }

    public int result(int code, int depth) throws IllegalArgumentException, IllegalStateException {
        if (!game.hasMove(code) || !isDepth(depth)) {
            throw new IllegalArgumentException("no such move or depth");
        }
        if (search.refusalOf(game, code) != NOT_REFUSED) {
            throw new IllegalStateException("the move is refused");
        }
        return search.valueBehind(game, depth);
    }

    public int best(int depth) throws IllegalArgumentException, NoSuchElementException {
        if (!isDepth(depth)) {
            throw new IllegalArgumentException("a depth is 1 or 2");
        }
        int code = search.bestMove(game, depth);
        if (code == NONE) {
            throw new NoSuchElementException("all moves are refused");
        }
        return code;
    }

    public int answers(int code) throws IllegalArgumentException, IllegalStateException {
        if (!game.hasMove(code)) {
            throw new IllegalArgumentException("no such move");
        }
        if (search.refusalOf(game, code) != NOT_REFUSED) {
            throw new IllegalStateException("the move is refused");
        }
        return search.countAnswers(game);
    }

    public int setTurn(int player) throws IllegalArgumentException {
        if (!isPlayer(player)) {
            throw new IllegalArgumentException("a player is 1 or 2");
        }
        int previous = game.turn;
        changes.keep(game);
        game.turn = player;
        game.beginPositions();
        return previous;
    }

    public int setPeriod(int period) throws IllegalArgumentException {
        if (period < 0 || period > LONGEST_PERIOD) {
            throw new IllegalArgumentException("a period is 0 to 20");
        }
        int previous = game.period;
        changes.keep(game);
        game.period = period;
        game.beginPositions();
        return previous;
    }

    public int rotateCaps() {
        changes.keep(game);
        Ring before = search.behind.ring;
        before.copy(game.ring);
        game.ring.rotate();
        game.beginPositions();
        return game.ring.countOtherHeights(before);
    }

    public int writeStack(int cell) throws IndexOutOfBoundsException {
        if (!game.ring.hasCell(cell)) {
            throw new IndexOutOfBoundsException("no such cell");
        }
        written[0] = (byte) ('0' + game.ring.caps[cell]);
        written[1] = ' ';
        writtenLength = 2;
        for (int piece = 0; piece < game.ring.heights[cell] && writtenLength < WRITTEN_LIMIT; piece++) {
            written[writtenLength] = (byte) (game.ring.ownerOf(cell, piece) == 1 ? 'a' : 'b');
            writtenLength++;
        }
        return writtenLength;
    }

    public int writtenByte(int index) throws IndexOutOfBoundsException {
        if (index < 0 || index >= writtenLength) {
            throw new IndexOutOfBoundsException("no such byte");
        }
        return written[index];
    }

    public int undo() throws IllegalStateException {
        if (changes.kept == 0) {
            throw new IllegalStateException("there is no change to undo");
        }
        changes.bringBack(game);
        return changes.kept;
    }

    public int save(int slot) throws IndexOutOfBoundsException {
        if (!isSlot(slot)) {
            throw new IndexOutOfBoundsException("no such slot");
        }
        slots[slot].copy(game);
        slotIsUsed[slot] = true;
        return game.ring.countPieces();
    }

    public int restore(int slot) throws IndexOutOfBoundsException, IllegalStateException {
        if (!isSlot(slot)) {
            throw new IndexOutOfBoundsException("no such slot");
        }
        if (!slotIsUsed[slot]) {
            throw new IllegalStateException("nothing was saved there");
        }
        changes.keep(game);
        game.copy(slots[slot]);
        return game.ring.countPieces();
    }

    public int differing(int slot) throws IndexOutOfBoundsException {
        if (!isSlot(slot)) {
            throw new IndexOutOfBoundsException("no such slot");
        }
        if (!slotIsUsed[slot] || slots[slot].ring.size != game.ring.size) {
            return NONE;
        }
        return game.ring.countOtherStacks(slots[slot].ring);
    }

    /** Makes a move that is known not to be refused; the answer is how many pieces it steals. */
    private int makeMove(int code) {
        changes.keep(game);
        int stolen = game.makeMove(code);
        game.positions.add(game);
        return stolen;
    }

    private static boolean isPlayer(int player) {
        return player >= 1 && player <= PLAYERS;
    }

    private static boolean isSlot(int slot) {
        return slot >= 0 && slot < SLOTS;
    }

    private static boolean isDepth(int depth) {
        return depth >= 1 && depth <= DEEPEST_SEARCH;
    }

    private static boolean isCarry(int direction, int k) {
        return direction >= 0 && direction <= 1 && k >= 1 && k <= LONGEST_CARRY;
    }

    private static int otherThan(int player) {
        return 1 + PLAYERS - player;
    }

    private static int countCodes(int cells) {
        return (2 * LONGEST_CARRY + 2) * cells;
    }

    /** The codes of all moves in rising order: the carries of every cell, the rolls, the drops. */
    private static int codeAt(int index, int cells) {
        int ofOneCell = 2 * LONGEST_CARRY;
        int carries = ofOneCell * cells;
        if (index < carries) {
            int direction = index / LONGEST_CARRY % 2;
            return 100 * (index / ofOneCell) + 10 * direction + index % LONGEST_CARRY + 1;
        }
        int rest = index - carries;
        return rest < cells ? ROLL_CODE + rest : DROP_CODE + rest - cells;
    }

    /**
     * The cells with their caps and stacks. Bit i of a stack's pieces is 1 if piece i belongs to player 2;
     * the bits from the height upward are 0.
     */
    private static final class Ring {
        final int[] caps = new int[MOST_CELLS];
        final int[] heights = new int[MOST_CELLS];
        final int[] pieces = new int[MOST_CELLS];
        int size;

        Ring() {
            layOut(FEWEST_CELLS);
        }

        /** Empty cells, all with the cap of a new object. */
        void layOut(int cells) {
            size = cells;
            for (int cell = 0; cell < MOST_CELLS; cell++) {
                caps[cell] = FIRST_CAP;
                heights[cell] = 0;
                pieces[cell] = 0;
            }
        }

        void copy(Ring from) {
            size = from.size;
            System.arraycopy(from.caps, 0, caps, 0, MOST_CELLS);
            System.arraycopy(from.heights, 0, heights, 0, MOST_CELLS);
            System.arraycopy(from.pieces, 0, pieces, 0, MOST_CELLS);
        }

        boolean hasCell(int cell) {
            return cell >= 0 && cell < size;
        }

        int ownerOf(int cell, int piece) {
            return 1 + (pieces[cell] >> piece & 1);
        }

        /** The player who controls a cell, or 0. */
        int controllerOf(int cell) {
            return heights[cell] == 0 ? 0 : 1 + (pieces[cell] >> heights[cell] - 1 & 1);
        }

        int guardOf(int cell) {
            int top = heights[cell] - 1;
            int guard = 0;
            while (guard <= top && (pieces[cell] >> top - guard & 1) == (pieces[cell] >> top & 1)) {
                guard++;
            }
            return guard;
        }

        int countIn(int cell, int player) {
            int ofPlayerTwo = Integer.bitCount(pieces[cell]);
            return player == 2 ? ofPlayerTwo : heights[cell] - ofPlayerTwo;
        }

        int countOwned(int player) {
            int owned = 0;
            for (int cell = 0; cell < size; cell++) {
                owned += countIn(cell, player);
            }
            return owned;
        }

        int countPieces() {
            int sum = 0;
            for (int cell = 0; cell < size; cell++) {
                sum += heights[cell];
            }
            return sum;
        }

        /** How many cells a player controls; for 0 how many are empty. */
        int countControlled(int player) {
            int controlled = 0;
            for (int cell = 0; cell < size; cell++) {
                if (controllerOf(cell) == player) {
                    controlled++;
                }
            }
            return controlled;
        }

        /** How many stacks more than the other player a player controls; the search asks often, so in one pass. */
        int leadOf(int player) {
            int lead = 0;
            for (int cell = 0; cell < size; cell++) {
                int controller = controllerOf(cell);
                if (controller == player) {
                    lead++;
                } else if (controller != 0) {
                    lead--;
                }
            }
            return lead;
        }

        int sumOfCaps() {
            int sum = 0;
            for (int cell = 0; cell < size; cell++) {
                sum += caps[cell];
            }
            return sum;
        }

        int greatestHeight() {
            int greatest = 0;
            for (int cell = 0; cell < size; cell++) {
                greatest = Math.max(greatest, heights[cell]);
            }
            return greatest;
        }

        /** The lowest one of the cells with the highest stack of a player, or NONE. */
        int highestOf(int player) {
            int found = NONE;
            for (int cell = 0; cell < size; cell++) {
                boolean isHigher = found == NONE || heights[cell] > heights[found];
                if (isHigher && controllerOf(cell) == player) {
                    found = cell;
                }
            }
            return found;
        }

        /** A player's pieces that lie somewhere below a piece of the other player. */
        int countCovered(int player) {
            int covered = 0;
            for (int cell = 0; cell < size; cell++) {
                covered += countCoveredIn(cell, player);
            }
            return covered;
        }

        private int countCoveredIn(int cell, int player) {
            int covered = 0;
            boolean isBelowOther = false;
            for (int piece = heights[cell] - 1; piece >= 0; piece--) {
                if (ownerOf(cell, piece) != player) {
                    isBelowOther = true;
                } else if (isBelowOther) {
                    covered++;
                }
            }
            return covered;
        }

        int countOtherHeights(Ring other) {
            int differing = 0;
            for (int cell = 0; cell < size; cell++) {
                if (heights[cell] != other.heights[cell]) {
                    differing++;
                }
            }
            return differing;
        }

        int countOtherStacks(Ring other) {
            int differing = 0;
            for (int cell = 0; cell < size; cell++) {
                if (heights[cell] != other.heights[cell] || pieces[cell] != other.pieces[cell]) {
                    differing++;
                }
            }
            return differing;
        }

        /** A carry goes at most 4 cells far, so it passes the ring's end at most once and never comes home. */
        int targetOf(int cell, int direction, int k) {
            int target = direction == 0 ? cell + k : cell - k;
            if (target >= size) {
                return target - size;
            }
            return target < 0 ? target + size : target;
        }

        /** How many pieces the controller of a stack steals when k pieces of it are brought to a target. */
        int stolenBy(int cell, int target, int k) {
            int robbed = controllerOf(target);
            if (robbed == 0 || robbed == controllerOf(cell)) {
                return 0;
            }
            int guard = guardOf(target);
            return guard <= k ? guard : 0;
        }

        /** Carries k pieces to a target that loses the stolen ones; the answer is settle's. */
        int bring(int cell, int target, int k, int stolen) {
            takeUppermost(target, stolen);
            int carried = pieces[cell] >> heights[cell] - k;
            takeUppermost(cell, k);
            putOn(target, carried, k);
            return settle(target);
        }

        void takeUppermost(int cell, int number) {
            heights[cell] -= number;
            pieces[cell] &= (1 << heights[cell]) - 1;
        }

        void putOn(int cell, int added, int number) {
            pieces[cell] |= added << heights[cell];
            heights[cell] += number;
        }

        void turnOver(int cell) {
            int below = heights[cell] - 1;
            int uppermost = pieces[cell] >> below;
            pieces[cell] = (pieces[cell] & (1 << below) - 1) << 1 | uppermost;
        }

        /**
         * Settles a cell; the answer is how many cells, one after the other, gave pieces away. All caps
         * together hold all pieces, so somewhere before the ring is closed a cell has room for the rest.
         */
        int settle(int start) {
            int cell = start;
            int giving = 0;
            while (giving < size && heights[cell] > caps[cell]) {
                int excess = heights[cell] - caps[cell];
                int next = cell + 1 < size ? cell + 1 : 0;
                pieces[next] |= (pieces[cell] & (1 << excess) - 1) << heights[next];
                heights[next] += excess;
                pieces[cell] >>= excess;
                heights[cell] = caps[cell];
                cell = next;
                giving++;
            }
            return giving;
        }

        /** Gives each cell the cap of the cell before it, then settles all cells. */
        void rotate() {
            int lastCap = caps[size - 1];
            for (int cell = size - 1; cell > 0; cell--) {
                caps[cell] = caps[cell - 1];
            }
            caps[0] = lastCap;
            for (int cell = 0; cell < size; cell++) {
                settle(cell);
            }
        }

        int countThreats(int target) {
            int threats = 0;
            for (int cell = 0; cell < size; cell++) {
                threats += countThreatsFrom(cell, target);
            }
            return threats;
        }

        private int countThreatsFrom(int cell, int target) {
            int threats = 0;
            for (int k = 1; k <= LONGEST_CARRY && k <= heights[cell]; k++) {
                if (stolenBy(cell, target, k) > 0) {
                    threats += targetOf(cell, 0, k) == target ? 1 : 0;
                    threats += targetOf(cell, 1, k) == target ? 1 : 0;
                }
            }
            return threats;
        }

        int reachedFrom(int cell) {
            int mask = 0;
            for (int k = 1; k <= LONGEST_CARRY && k <= heights[cell]; k++) {
                mask |= 1 << targetOf(cell, 0, k) | 1 << targetOf(cell, 1, k);
            }
            return mask;
        }

        /** Caps and settled stacks of some cells, 12 bits a cell: the cap less 1, a 1 above the pieces, the pieces. */
        long packed(int from, int to) {
            long packed = 0;
            for (int cell = from; cell < to; cell++) {
                packed = packed << 12 | (caps[cell] - 1) << 9 | 1 << heights[cell] | pieces[cell];
            }
            return packed;
        }
    }

    /** All that undo brings back. Rows of players are indexed by 1 and 2. */
    private static final class Game {
        static final int CELLS_OF_A_KEY = 5;

        final Ring ring = new Ring();
        final int[] reserves = new int[PLAYERS + 1];
        final int[] prisoners = new int[PLAYERS + 1];
        final Positions positions = new Positions();
        int turn;
        int movesMade;
        int period;
        int goal;

        Game() {
            begin();
        }

        /** The game of a new object, but for its positions. */
        void begin() {
            ring.layOut(FEWEST_CELLS);
            for (int player = 1; player <= PLAYERS; player++) {
                reserves[player] = 0;
                prisoners[player] = 0;
            }
            turn = 1;
            movesMade = 0;
            period = 0;
            goal = FIRST_GOAL;
        }

        void beginPositions() {
            positions.clear();
            positions.add(this);
        }

        /** Everything but the positions: the search tries thousands of moves and needs the board alone. */
        void copyBoard(Game from) {
            ring.copy(from.ring);
            for (int player = 1; player <= PLAYERS; player++) {
                reserves[player] = from.reserves[player];
                prisoners[player] = from.prisoners[player];
            }
            turn = from.turn;
            movesMade = from.movesMade;
            period = from.period;
            goal = from.goal;
        }

        void copy(Game from) {
            copyBoard(from);
            positions.copy(from.positions);
        }

        /** The player who has won by the goal, or 0. */
        int winner() {
            for (int player = 1; player <= PLAYERS; player++) {
                if (prisoners[player] >= goal) {
                    return player;
                }
            }
            return 0;
        }

        int valueFor(int player) {
            int captured = prisoners[player] - prisoners[otherThan(player)];
            return 3 * captured + ring.leadOf(player);
        }

        boolean hasMove(int code) {
            if (code >= DROP_CODE) {
                return code - DROP_CODE < ring.size;
            }
            if (code >= ROLL_CODE) {
                return code - ROLL_CODE < ring.size;
            }
            return code >= 0 && code / 100 < ring.size && isCarry(code / 10 % 10, code % 10);
        }

        /** The reason of the rules alone, 1 to 4, that refuses a move; repetitions are looked at elsewhere. */
        int ruleAgainst(int code) {
            if (winner() != 0) {
                return GAME_IS_WON;
            }
            if (code >= DROP_CODE) {
                return ruleAgainstDrop(code - DROP_CODE);
            }
            boolean isRoll = code >= ROLL_CODE;
            int cell = isRoll ? code - ROLL_CODE : code / 100;
            if (ring.controllerOf(cell) != turn) {
                return NOT_CONTROLLED;
            }
            int needed = isRoll ? 2 : code % 10;
            return ring.heights[cell] < needed ? WRONG_HEIGHT : NOT_REFUSED;
        }

        private int ruleAgainstDrop(int cell) {
            if (ring.controllerOf(cell) == otherThan(turn)) {
                return NOT_CONTROLLED;
            }
            if (ring.heights[cell] >= ring.caps[cell]) {
                return WRONG_HEIGHT;
            }
            return reserves[turn] == 0 ? RESERVE_IS_EMPTY : NOT_REFUSED;
        }

        /** Changes the board by a move that is known not to be refused; the answer is how many pieces it steals. */
        int makeMove(int code) {
            int stolen = 0;
            if (code >= DROP_CODE) {
                reserves[turn]--;
                ring.putOn(code - DROP_CODE, turn - 1, 1);
            } else if (code >= ROLL_CODE) {
                ring.turnOver(code - ROLL_CODE);
            } else {
                int cell = code / 100;
                int k = code % 10;
                int target = ring.targetOf(cell, code / 10 % 10, k);
                stolen = ring.stolenBy(cell, target, k);
                prisoners[turn] += stolen;
                ring.bring(cell, target, k, stolen);
            }
            movesMade++;
            if (period > 0 && movesMade % period == 0) {
                ring.rotate();
            }
            turn = otherThan(turn);
            return stolen;
        }

        /** Three keys tell a position exactly; the third one has room for the reserves and the turn. */
        long positionKey(int part) {
            int from = part * CELLS_OF_A_KEY;
            long cells = ring.packed(from, Math.min(ring.size, from + CELLS_OF_A_KEY));
            if (part < Positions.KEYS - 1) {
                return cells;
            }
            return cells << 11 | reserves[1] << 6 | reserves[2] << 1 | turn - 1;
        }
    }

    /** The latest positions, in a row that is written round and round. */
    private static final class Positions {
        static final int KEYS = 3;

        final long[] keys = new long[POSITIONS_KEPT * KEYS];
        int kept = 0;
        int next = 0;

        Positions() {
        }

        void clear() {
            kept = 0;
            next = 0;
        }

        void copy(Positions from) {
            kept = from.kept;
            next = from.next;
            System.arraycopy(from.keys, 0, keys, 0, POSITIONS_KEPT * KEYS);
        }

        void add(Game game) {
            for (int part = 0; part < KEYS; part++) {
                keys[next * KEYS + part] = game.positionKey(part);
            }
            next = next + 1 < POSITIONS_KEPT ? next + 1 : 0;
            kept = Math.min(kept + 1, POSITIONS_KEPT);
        }

        boolean contain(Game game) {
            long first = game.positionKey(0);
            long second = game.positionKey(1);
            long third = game.positionKey(2);
            for (int at = 0; at < kept * KEYS; at += KEYS) {
                if (keys[at] == first && keys[at + 1] == second && keys[at + 2] == third) {
                    return true;
                }
            }
            return false;
        }
    }

    /** Tries moves on boards of its own, which are made once and used again for every call. */
    private static final class Search {
        final Game behind = new Game();
        final Game answered = new Game();

        Search() {
        }

        /** The reason that refuses a move, or 0; then the board behind the move stands in 'behind'. */
        int refusalOf(Game game, int code) {
            return refusal(game, code, behind);
        }

        private int refusal(Game game, int code, Game board) {
            int rule = game.ruleAgainst(code);
            if (rule != NOT_REFUSED) {
                return rule;
            }
            board.copyBoard(game);
            board.makeMove(code);
            return game.positions.contain(board) ? REPEATED : NOT_REFUSED;
        }

        int countMoves(Game game) {
            return countOpen(game, behind);
        }

        /** Counts the moves of a game that are not refused; the board is there to try them on. */
        private int countOpen(Game game, Game board) {
            int open = 0;
            for (int index = 0; index < countCodes(game.ring.size); index++) {
                if (refusal(game, codeAt(index, game.ring.size), board) == NOT_REFUSED) {
                    open++;
                }
            }
            return open;
        }

        /** The move with this number among those that are not refused, or NONE. */
        int moveAt(Game game, int number) {
            int before = 0;
            for (int index = 0; index < countCodes(game.ring.size); index++) {
                int code = codeAt(index, game.ring.size);
                if (refusal(game, code, behind) == NOT_REFUSED) {
                    if (before == number) {
                        return code;
                    }
                    before++;
                }
            }
            return NONE;
        }

        /** The answers to the move that refusalOf was asked for last, which was not refused. */
        int countAnswers(Game game) {
            takePositions(game);
            return countOpen(behind, answered);
        }

        private void takePositions(Game game) {
            behind.positions.copy(game.positions);
            behind.positions.add(behind);
        }

        /** The result of the move that refusalOf was asked for last, which was not refused. */
        int valueBehind(Game game, int depth) {
            int least = behind.valueFor(game.turn);
            if (depth == 1) {
                return least;
            }
            takePositions(game);
            boolean isAnswered = false;
            for (int index = 0; index < countCodes(game.ring.size); index++) {
                if (refusal(behind, codeAt(index, game.ring.size), answered) == NOT_REFUSED) {
                    int value = answered.valueFor(game.turn);
                    least = isAnswered ? Math.min(least, value) : value;
                    isAnswered = true;
                }
            }
            return least;
        }

        /** The lowest code with the greatest result, or NONE. */
        int bestMove(Game game, int depth) {
            int bestCode = NONE;
            int greatest = 0;
            for (int index = 0; index < countCodes(game.ring.size); index++) {
                int code = codeAt(index, game.ring.size);
                if (refusal(game, code, behind) == NOT_REFUSED) {
                    int value = valueBehind(game, depth);
                    if (bestCode == NONE || value > greatest) {
                        bestCode = code;
                        greatest = value;
                    }
                }
            }
            return bestCode;
        }
    }

    /** The games before the latest changes, in a row that is written round and round. */
    private static final class Changes {
        final Game[] games = new Game[CHANGES_KEPT];
        int kept = 0;
        int next = 0;

        Changes() {
            for (int change = 0; change < CHANGES_KEPT; change++) {
                games[change] = new Game();
            }
        }

        void keep(Game game) {
            games[next].copy(game);
            next = next + 1 < CHANGES_KEPT ? next + 1 : 0;
            kept = Math.min(kept + 1, CHANGES_KEPT);
        }

        /** Only to be asked for if a change is kept. */
        void bringBack(Game game) {
            next = next > 0 ? next - 1 : CHANGES_KEPT - 1;
            kept--;
            game.copy(games[next]);
        }
    }

    /** The text buffer, and the reading of a game from it, token by token, up to the first error. */
    private static final class GameText {
        static final int END = 0;
        static final int WORD = 1;
        static final int NUMBER = 2;
        static final int SEMICOLON = 3;
        static final int STRANGE = 4;
        static final int OUT_OF_EVERY_RANGE = 1000;

        final byte[] bytes = new byte[TEXT_LIMIT];
        int filled = 0;
        final Game game = new Game();
        int error = 0;
        int errorStart = NONE;
        private int length;
        private int kind;
        private int tokenStart;
        private int tokenEnd;
        private int number;

        GameText() {
        }

        /** Whether the bytes of one call of append, five times four, still fit. */
        boolean hasRoom() {
            return filled + 5 * 4 <= TEXT_LIMIT;
        }

        void addFourBytes(int four) {
            for (int shift = 24; shift >= 0 && filled < TEXT_LIMIT; shift -= 8) {
                bytes[filled] = (byte) (four >> shift);
                filled++;
            }
        }

        void clear() {
            filled = 0;
        }

        /** Reads the first bytes into 'game'; answers false with 'error' and 'errorStart' at an error. */
        boolean readGame(int textLength) {
            length = Math.min(textLength, TEXT_LIMIT);
            tokenEnd = 0;
            advance();
            game.begin();
            if (!readCaps()) {
                return false;
            }
            // Every part takes at least one byte, so the limit of the text ends these loops too.
            for (int part = 0; part < TEXT_LIMIT && kind == WORD && !isWord("stack"); part++) {
                if (!readOption() || !takeSemicolon()) {
                    return false;
                }
            }
            for (int part = 0; part < TEXT_LIMIT && kind != END; part++) {
                if (!readStack() || !takeSemicolon()) {
                    return false;
                }
            }
            return true;
        }

        private boolean readCaps() {
            if (!takeWord("caps")) {
                return false;
            }
            int cells = 0;
            while (cells < MOST_CELLS && (cells < FEWEST_CELLS || kind == NUMBER)) {
                if (!takeNumber(1, HIGHEST_CAP)) {
                    return false;
                }
                game.ring.caps[cells] = number;
                cells++;
            }
            game.ring.size = cells;
            return takeSemicolon();
        }

        private boolean readOption() {
            if (isWord("period")) {
                return readPeriod();
            }
            if (isWord("goal")) {
                return readGoal();
            }
            if (isWord("reserve")) {
                return readReserves();
            }
            if (isWord("turn")) {
                return readTurn();
            }
            return failWith(SYNTAX_ERROR);
        }

        private boolean readPeriod() {
            advance();
            if (!takeNumber(0, LONGEST_PERIOD)) {
                return false;
            }
            game.period = number;
            return true;
        }

        private boolean readGoal() {
            advance();
            if (!takeNumber(1, HIGHEST_GOAL)) {
                return false;
            }
            game.goal = number;
            return true;
        }

        private boolean readReserves() {
            advance();
            for (int player = 1; player <= PLAYERS; player++) {
                if (!takeNumber(0, LARGEST_RESERVE)) {
                    return false;
                }
                game.reserves[player] = number;
            }
            return true;
        }

        private boolean readTurn() {
            advance();
            if (!takeNumber(1, PLAYERS)) {
                return false;
            }
            game.turn = number;
            return true;
        }

        private boolean readStack() {
            if (!takeWord("stack")) {
                return false;
            }
            int start = tokenStart;
            if (!takeNumber(0, game.ring.size - 1)) {
                return false;
            }
            if (game.ring.heights[number] > 0) {
                return failAt(start, VALUE_ERROR);
            }
            return readPieces(number);
        }

        private boolean readPieces(int cell) {
            if (kind != WORD) {
                return failWith(SYNTAX_ERROR);
            }
            if (tokenEnd - tokenStart > game.ring.caps[cell]) {
                return failWith(VALUE_ERROR);
            }
            for (int at = tokenStart; at < tokenEnd; at++) {
                if (bytes[at] != 'a' && bytes[at] != 'b') {
                    return failWith(VALUE_ERROR);
                }
                game.ring.putOn(cell, bytes[at] - 'a', 1);
            }
            advance();
            return true;
        }

        private boolean takeWord(String word) {
            if (!isWord(word)) {
                return failWith(SYNTAX_ERROR);
            }
            advance();
            return true;
        }

        private boolean takeSemicolon() {
            if (kind != SEMICOLON) {
                return failWith(SYNTAX_ERROR);
            }
            advance();
            return true;
        }

        private boolean takeNumber(int least, int greatest) {
            if (kind != NUMBER) {
                return failWith(SYNTAX_ERROR);
            }
            number = valueOfToken();
            if (number < least || number > greatest) {
                return failWith(VALUE_ERROR);
            }
            advance();
            return true;
        }

        /** The value of the digits; many digits stop at some value that no range holds, lest it wrap around. */
        private int valueOfToken() {
            int value = 0;
            for (int at = tokenStart; at < tokenEnd && value < OUT_OF_EVERY_RANGE; at++) {
                value = 10 * value + bytes[at] - '0';
            }
            return value;
        }

        private boolean isWord(String word) {
            if (kind != WORD || tokenEnd - tokenStart != word.length()) {
                return false;
            }
            for (int at = 0; at < word.length(); at++) {
                if (bytes[tokenStart + at] != word.charAt(at)) {
                    return false;
                }
            }
            return true;
        }

        private boolean failWith(int code) {
            return failAt(tokenStart, code);
        }

        private boolean failAt(int position, int code) {
            error = code;
            errorStart = position;
            return false;
        }

        /** Goes to the next token; the end of the text counts as one. */
        private void advance() {
            tokenStart = tokenEnd;
            while (tokenStart < length && bytes[tokenStart] == ' ') {
                tokenStart++;
            }
            tokenEnd = tokenStart;
            kind = END;
            if (tokenStart < length) {
                kind = kindOf(bytes[tokenStart]);
                tokenEnd++;
            }
            while (tokenEnd < length && (kind == WORD || kind == NUMBER) && kindOf(bytes[tokenEnd]) == kind) {
                tokenEnd++;
            }
        }

        private static int kindOf(byte sign) {
            if (sign >= 'a' && sign <= 'z') {
                return WORD;
            }
            if (sign >= '0' && sign <= '9') {
                return NUMBER;
            }
            return sign == ';' ? SEMICOLON : STRANGE;
        }
    }
}
