/**
 * Moves that are bought at auction. The promises behind each call are told in the project's document;
 * README.md says how to use the class.
 */
public final class BiddenMoves {
    public static final int NONE = -1;

    private static final int POSITIONS = 8;
    private static final int MOVES = 4;
    private static final int PLAYERS = 2;
    private static final int MOST_CHIPS = 20;
    private static final int MOST_TURNS = 12;
    private static final int MOST_SAVED = 6;
    private static final int MOST_SIGNS = 60;
    private static final int SLOTS = 2;

    private final State now = new State();
    private final SavedStates saved = new SavedStates();
    private final State[] slots = new State[SLOTS];
    private final boolean[] kept = new boolean[SLOTS];
    private final BoardText text = new BoardText();
    private final ForcedBudgets forced = new ForcedBudgets();
    private final Thresholds thresholds = new Thresholds();

    public BiddenMoves() {
        for (int slot = 0; slot < SLOTS; slot++) {
            slots[slot] = new State();
        }
    }

    // ---- the board

    public int addMove(int position, int to)
            throws IndexOutOfBoundsException, IllegalArgumentException, IllegalStateException {
        needPosition(position);
        needPosition(to);
        if (position == to) {
            throw new IllegalArgumentException("a move leads to another position");
        }
        Board board = now.board;
        if (board.hasMove(position, to) || board.counts[position] >= MOVES) {
            throw new IllegalStateException("the position has this move, or no room for it");
        }
        saveBeforeBoard();
        board.putMove(position, to);
        return board.counts[position];
    }

    public int clearMoves(int position) throws IndexOutOfBoundsException {
        needPosition(position);
        saveBeforeBoard();
        int gone = now.board.counts[position];
        now.board.counts[position] = 0;
        return gone;
    }

    public int mark(int position, int mark) throws IndexOutOfBoundsException, IllegalArgumentException {
        needPosition(position);
        needUpTo(mark, 2);
        saveBeforeBoard();
        int before = now.board.marks[position];
        now.board.marks[position] = mark;
        return before;
    }

    public int reverse() {
        saveBeforeBoard();
        now.board.exchangeMarks();
        now.budget = now.chips - now.budget;
        now.star = 1 - now.star;
        if (now.bought != NONE) {
            now.bought = 1 - now.bought;
        }
        return now.budget;
    }

    public int set(int setting, int value) throws IndexOutOfBoundsException, IllegalArgumentException {
        needSetting(setting);
        needUpTo(value, setting == 0 ? MOST_CHIPS : MOST_TURNS);
        saveBeforeBoard();
        int before = setting == 0 ? now.chips : now.turns;
        if (setting == 0) {
            now.shareOut(value);
        } else {
            now.turns = value;
        }
        return before;
    }

    // ---- the game

    public int place(int position, int budget, int star) throws IndexOutOfBoundsException, IllegalArgumentException {
        needPosition(position);
        needUpTo(budget, now.chips);
        needUpTo(star, 1);
        saved.push(now);
        now.position = position;
        now.budget = budget;
        now.star = star;
        now.bought = NONE;
        return now.isOver() ? 1 : 0;
    }

    public int bid(int bid, int other) {
        saved.push(now);
        int reason = reasonAgainstBids(bid, other);
        if (reason != 0) {
            now.refused++;
            return reason;
        }
        int buyer = bid == other ? now.star : bid > other ? 0 : 1;
        if (bid == other) {
            now.ties++;
            now.star = 1 - now.star;
        }
        now.buyTurn(buyer, Math.max(bid, other));
        return 10 + buyer;
    }

    public int move(int to) {
        saved.push(now);
        int reason = reasonAgainstMove(to);
        if (reason != 0) {
            now.refused++;
            return reason;
        }
        now.position = to;
        now.bought = NONE;
        return now.isOver() ? 11 : 10;
    }

    // ---- texts, snapshots

    public int append(int code) throws IllegalArgumentException, IllegalStateException {
        if (code < 33 || code > 126) {
            throw new IllegalArgumentException("no such character in the buffer");
        }
        if (text.length >= MOST_SIGNS) {
            throw new IllegalStateException("the buffer is full");
        }
        text.signs[text.length] = (char) code;
        text.length++;
        return text.length;
    }

    public int clearBuffer() {
        int length = text.length;
        text.length = 0;
        return length;
    }

    public int firstError() {
        return text.scan();
    }

    public int load() throws IllegalArgumentException {
        int error = text.scan();
        if (error < text.length || !text.isWhole()) {
            throw new IllegalArgumentException("the buffer tells no board");
        }
        saveBeforeBoard();
        now.board.copyBoard(text.told);
        now.bought = NONE;
        text.length = 0;
        return text.parts;
    }

    public int keep(int slot) throws IllegalArgumentException {
        needUpTo(slot, SLOTS - 1);
        slots[slot].copyFrom(now);
        kept[slot] = true;
        return now.position;
    }

    public int goBack(int slot) throws IllegalArgumentException, IllegalStateException {
        needUpTo(slot, SLOTS - 1);
        if (!kept[slot]) {
            throw new IllegalStateException("no snapshot in this slot");
        }
        saveBeforeBoard();
        now.copyFrom(slots[slot]);
        return now.position;
    }

    public int undo() throws IllegalStateException {
        if (saved.size == 0) {
            throw new IllegalStateException("no saved state");
        }
        saved.popInto(now);
        forgetForced();
        return saved.size;
    }

    // ---- looks; nothing is changed

    public int positionOf(int position, int what) throws IndexOutOfBoundsException, IllegalArgumentException {
        needPosition(position);
        needUpTo(what, 6);
        switch (what) {
            case 0:
                return now.board.marks[position];
            case 1:
                return now.board.counts[position];
            case 6:
                return now.board.movesTo(position);
            default:
                return now.board.moveAt(position, what - 2);
        }
    }

    public int playerOf(int player, int what) throws IndexOutOfBoundsException, IllegalArgumentException {
        needPlayer(player);
        needUpTo(what, 5);
        switch (what) {
            case 0:
                return now.budgetOf(player);
            case 1:
                return now.star == player ? 1 : 0;
            case 2:
                return now.turnsBought[player];
            case 3:
                return now.chipsPaid[player];
            case 4:
                return now.board.wonFor(player);
            default:
                forced.tell(now, now.turns);
                return forced.positionsOf(now, player);
        }
    }

    public int count(int what) throws IllegalArgumentException {
        needUpTo(what, 10);
        switch (what) {
            case 0:
                return now.position;
            case 1:
                return now.isOver() ? 1 : 0;
            case 2:
                return now.board.marks[now.position] - 1;
            case 3:
                return now.bought;
            case 4:
                return now.star;
            case 5:
                return now.chips;
            case 6:
                return now.turnsBought[0] + now.turnsBought[1];
            case 7:
                return now.ties;
            case 8:
                return now.refused;
            case 9:
                return now.board.allMoves();
            default:
                return saved.size;
        }
    }

    public int setting(int setting) throws IndexOutOfBoundsException {
        needSetting(setting);
        return setting == 0 ? now.chips : now.turns;
    }

    // ---- what can be forced; nothing is changed

    public int force(int player, int position, int budget, int star, int turns)
            throws IndexOutOfBoundsException, IllegalArgumentException {
        needPlayer(player);
        needPosition(position);
        needUpTo(budget, now.chips);
        needUpTo(star, 1);
        needUpTo(turns, MOST_TURNS);
        forced.tell(now, turns);
        return holds(forced.entry(turns, player, position, star), budget) ? 1 : 0;
    }

    public int threshold(int player, int position, int star, int what)
            throws IndexOutOfBoundsException, IllegalArgumentException {
        needPlayer(player);
        needPosition(position);
        needUpTo(star, 1);
        needUpTo(what, 1);
        if (what == 0) {
            forced.tell(now, now.turns);
            return leastOf(forced.entry(now.turns, player, position, star));
        }
        thresholds.tell(now, now.turns);
        int least = thresholds.entry(now.turns, player, position, star);
        return least <= now.chips ? least : NONE;
    }

    public int advice(int player) throws IndexOutOfBoundsException {
        needPlayer(player);
        if (now.isOver() || now.turns == 0) {
            return NONE;
        }
        forced.tell(now, now.turns - 1);
        forced.lookBehind(now, now.turns, player, now.position);
        return forced.leastWinningBid(now.chips, player, now.budgetOf(player), now.star);
    }

    public int refuted(int player, int bid) throws IndexOutOfBoundsException, IllegalArgumentException {
        needPlayer(player);
        needUpTo(bid, now.budgetOf(player));
        if (now.board.isWonFor(player, now.position)) {
            return NONE;
        }
        if (now.isOver() || now.turns == 0) {
            return 0;
        }
        forced.tell(now, now.turns - 1);
        forced.lookBehind(now, now.turns, player, now.position);
        return forced.leastRefutation(now.chips, player, now.budgetOf(player), now.star, bid);
    }

    public int bestMove(int player, int bid) throws IndexOutOfBoundsException, IllegalArgumentException {
        needPlayer(player);
        needUpTo(bid, now.budgetOf(player));
        if (now.isOver() || now.turns == 0) {
            return NONE;
        }
        forced.tell(now, now.turns - 1);
        int left = now.budgetOf(player) - bid;
        for (int i = 0; i < now.board.counts[now.position]; i++) {
            int to = now.board.moveAt(now.position, i);
            if (holds(forced.entry(now.turns - 1, player, to, now.star), left)) {
                return to;
            }
        }
        return NONE;
    }

    public int winIn(int player) throws IndexOutOfBoundsException {
        needPlayer(player);
        int budget = now.budgetOf(player);
        for (int turns = 0; turns <= MOST_TURNS; turns++) {
            forced.tell(now, turns);
            if (holds(forced.entry(turns, player, now.position, now.star), budget)) {
                return turns;
            }
        }
        return NONE;
    }

    public double forcedShare() {
        forced.tell(now, now.turns);
        int can = 0;
        for (int position = 0; position < POSITIONS; position++) {
            for (int star = 0; star < PLAYERS; star++) {
                can += Integer.bitCount(forced.entry(now.turns, 0, position, star));
            }
        }
        double all = POSITIONS * PLAYERS * (now.chips + 1);
        return can / all;
    }

    public long digest() {
        long hash = 3433;
        for (int what = 0; what <= 10; what++) {
            hash = 31 * hash + count(what);
        }
        hash = 31 * hash + now.chips;
        hash = 31 * hash + now.turns;
        for (int position = 0; position < POSITIONS; position++) {
            for (int what = 0; what <= 6; what++) {
                hash = 31 * hash + positionOf(position, what);
            }
            for (int player = 0; player < PLAYERS; player++) {
                for (int star = 0; star < PLAYERS; star++) {
                    hash = 31 * hash + threshold(player, position, star, 0);
                    hash = 31 * hash + threshold(player, position, star, 1);
                }
            }
        }
        for (int player = 0; player < PLAYERS; player++) {
            for (int what = 0; what <= 5; what++) {
                hash = 31 * hash + playerOf(player, what);
            }
            hash = 31 * hash + advice(player);
            hash = 31 * hash + refuted(player, 0);
            hash = 31 * hash + bestMove(player, 0);
            hash = 31 * hash + winIn(player);
        }
        hash = 31 * hash + bitsOf(forcedShare());
        for (int slot = 0; slot < SLOTS; slot++) {
            hash = 31 * hash + (kept[slot] ? 1 : 0);
        }
        hash = 31 * hash + text.length;
        for (int i = 0; i < text.length; i++) {
            hash = 31 * hash + text.signs[i];
        }
        return hash;
    }

    // ---- behind the face

    private static void needPosition(int position) {
        if (position < 0 || position >= POSITIONS) {
            throw new IndexOutOfBoundsException("no such position");
        }
    }

    private static void needPlayer(int player) {
        if (player < 0 || player >= PLAYERS) {
            throw new IndexOutOfBoundsException("no such player");
        }
    }

    private static void needSetting(int setting) {
        if (setting < 0 || setting > 1) {
            throw new IndexOutOfBoundsException("no such setting");
        }
    }

    private static void needUpTo(int value, int most) {
        if (value < 0 || value > most) {
            throw new IllegalArgumentException("an argument is out of range");
        }
    }

    /** What can be forced hangs on the board and the chips alone: bids and moves leave it as it is told. */
    private void saveBeforeBoard() {
        saved.push(now);
        forgetForced();
    }

    private void forgetForced() {
        forced.forget();
        thresholds.forget();
    }

    private int reasonAgainstBids(int bid, int other) {
        if (now.isOver()) {
            return 1;
        }
        if (now.bought != NONE) {
            return 2;
        }
        if (bid < 0 || other < 0) {
            return 3;
        }
        return bid > now.budgetOf(0) || other > now.budgetOf(1) ? 4 : 0;
    }

    private int reasonAgainstMove(int to) {
        if (now.isOver()) {
            return 1;
        }
        if (now.bought == NONE) {
            return 2;
        }
        return now.board.hasMove(now.position, to) ? 0 : 3;
    }

    private static boolean holds(int budgets, int budget) {
        return (budgets >> budget & 1) == 1;
    }

    private static int leastOf(int budgets) {
        for (int budget = 0; budget <= MOST_CHIPS; budget++) {
            if (holds(budgets, budget)) {
                return budget;
            }
        }
        return NONE;
    }

    /** The bits of a share from 0 to 1, made by hand since the library's way to them is not at hand. */
    private static long bitsOf(double share) {
        if (share <= 0) {
            return 0;
        }
        double rest = share;
        long exponent = 1023;
        while (rest < 1 && exponent > 1) {
            rest = rest * 2;
            exponent--;
        }
        long fraction = (long) ((rest - 1) * (1L << 52));
        return (exponent << 52) + fraction;
    }

    /** The marks, and the moves in the order in which they came. */
    private static final class Board {
        private final int[] marks = new int[POSITIONS];
        private final int[] counts = new int[POSITIONS];
        private final int[] moves = new int[POSITIONS * MOVES];

        private void copyBoard(Board other) {
            System.arraycopy(other.marks, 0, marks, 0, POSITIONS);
            System.arraycopy(other.counts, 0, counts, 0, POSITIONS);
            System.arraycopy(other.moves, 0, moves, 0, POSITIONS * MOVES);
        }

        private void empty() {
            for (int position = 0; position < POSITIONS; position++) {
                marks[position] = 0;
                counts[position] = 0;
            }
        }

        private void exchangeMarks() {
            for (int position = 0; position < POSITIONS; position++) {
                if (marks[position] != 0) {
                    marks[position] = 3 - marks[position];
                }
            }
        }

        private void putMove(int position, int to) {
            moves[position * MOVES + counts[position]] = to;
            counts[position]++;
        }

        private int moveAt(int position, int index) {
            return index < counts[position] ? moves[position * MOVES + index] : NONE;
        }

        private boolean hasMove(int position, int to) {
            for (int i = 0; i < counts[position]; i++) {
                if (moves[position * MOVES + i] == to) {
                    return true;
                }
            }
            return false;
        }

        private int movesTo(int to) {
            int found = 0;
            for (int position = 0; position < POSITIONS; position++) {
                if (hasMove(position, to)) {
                    found++;
                }
            }
            return found;
        }

        private int allMoves() {
            int all = 0;
            for (int position = 0; position < POSITIONS; position++) {
                all += counts[position];
            }
            return all;
        }

        private boolean isWonFor(int player, int position) {
            return marks[position] == player + 1;
        }

        private int wonFor(int player) {
            int won = 0;
            for (int position = 0; position < POSITIONS; position++) {
                if (isWonFor(player, position)) {
                    won++;
                }
            }
            return won;
        }

        private boolean isEnd(int position) {
            return marks[position] != 0 || counts[position] == 0;
        }
    }

    /** All that a snapshot holds. The player 1 has the chips that the player 0 has not. */
    private static final class State {
        private final Board board = new Board();
        private int chips = 8;
        private int turns = 6;
        private int position = 0;
        private int budget = 4;
        private int star = 0;
        private int bought = NONE;
        private final int[] turnsBought = new int[PLAYERS];
        private final int[] chipsPaid = new int[PLAYERS];
        private int ties = 0;
        private int refused = 0;

        private void copyFrom(State other) {
            board.copyBoard(other.board);
            chips = other.chips;
            turns = other.turns;
            position = other.position;
            budget = other.budget;
            star = other.star;
            bought = other.bought;
            System.arraycopy(other.turnsBought, 0, turnsBought, 0, PLAYERS);
            System.arraycopy(other.chipsPaid, 0, chipsPaid, 0, PLAYERS);
            ties = other.ties;
            refused = other.refused;
        }

        private boolean isOver() {
            return board.isEnd(position);
        }

        private int budgetOf(int player) {
            return player == 0 ? budget : chips - budget;
        }

        private void shareOut(int all) {
            chips = all;
            budget = all / 2;
        }

        private void buyTurn(int buyer, int price) {
            budget += buyer == 0 ? -price : price;
            turnsBought[buyer]++;
            chipsPaid[buyer] += price;
            bought = buyer;
        }
    }

    /** The states for undo, in a ring whose objects are used again. */
    private static final class SavedStates {
        private final State[] states = new State[MOST_SAVED];
        private int next = 0;
        private int size = 0;

        private SavedStates() {
            for (int i = 0; i < MOST_SAVED; i++) {
                states[i] = new State();
            }
        }

        private void push(State state) {
            states[next].copyFrom(state);
            next = next + 1 < MOST_SAVED ? next + 1 : 0;
            size = Math.min(size + 1, MOST_SAVED);
        }

        private void popInto(State state) {
            next = next > 0 ? next - 1 : MOST_SAVED - 1;
            size--;
            state.copyFrom(states[next]);
        }
    }

    /** The buffer, and the board that it tells as far as it is read. */
    private static final class BoardText {
        private static final int POSITION = 0;
        private static final int COLON = 1;
        private static final int MARK_OR_MOVE = 2;
        private static final int MOVE_OR_END = 3;
        private static final int END = 4;

        private final char[] signs = new char[MOST_SIGNS];
        private int length = 0;
        private final Board told = new Board();
        private final boolean[] seen = new boolean[POSITIONS];
        private int parts = 0;
        private int part = 0;
        private int expected = POSITION;

        /** The index of the first error, the length without one. */
        private int scan() {
            told.empty();
            for (int position = 0; position < POSITIONS; position++) {
                seen[position] = false;
            }
            parts = 0;
            expected = POSITION;
            for (int i = 0; i < length; i++) {
                if (!takes(signs[i])) {
                    return i;
                }
            }
            return length;
        }

        private boolean isWhole() {
            return expected == MOVE_OR_END || expected == END;
        }

        private boolean takes(char sign) {
            switch (expected) {
                case POSITION:
                    return takesPosition(positionBy(sign));
                case COLON:
                    expected = MARK_OR_MOVE;
                    return sign == ':';
                case MARK_OR_MOVE:
                    return takesMark(sign) || takesMove(positionBy(sign));
                case MOVE_OR_END:
                    return takesMove(positionBy(sign)) || takesEnd(sign);
                default:
                    return takesEnd(sign);
            }
        }

        private static int positionBy(char sign) {
            return sign >= '0' && sign < '0' + POSITIONS ? sign - '0' : NONE;
        }

        private boolean takesPosition(int position) {
            if (position == NONE || seen[position]) {
                return false;
            }
            seen[position] = true;
            part = position;
            parts++;
            expected = COLON;
            return true;
        }

        private boolean takesMark(char sign) {
            if (sign != 'A' && sign != 'B') {
                return false;
            }
            told.marks[part] = sign == 'A' ? 1 : 2;
            expected = END;
            return true;
        }

        private boolean takesMove(int to) {
            if (to == NONE || to == part || told.counts[part] >= MOVES || told.hasMove(part, to)) {
                return false;
            }
            told.putMove(part, to);
            expected = MOVE_OR_END;
            return true;
        }

        private boolean takesEnd(char sign) {
            // no text goes on behind a part for each position
            if (sign != ';' || parts >= POSITIONS) {
                return false;
            }
            expected = POSITION;
            return true;
        }
    }

    /**
     * Entries for each number of turns, player, position and holder of the star; those with one turn more are
     * told by those before. An entry says with which budgets a win can be forced, each kind in its own way.
     */
    private abstract static class Entries {
        /** What at least one of the moves, or each of them, leads to, by the holder of the star behind the turn. */
        final int[] some = new int[PLAYERS];
        final int[] each = new int[PLAYERS];
        private final int[] entries = new int[(MOST_TURNS + 1) * PLAYERS * POSITIONS * PLAYERS];
        private int told = 0;

        /** The entry of all budgets. */
        abstract int everything(int chips);

        /** The entry of no budget. */
        abstract int nothing();

        /** The entry of the budgets that one of both has. */
        abstract int either(int one, int two);

        /** The entry of the budgets that both have. */
        abstract int both(int one, int two);

        /** The entry with a turn to be bought, once lookBehind() has looked at its position. */
        abstract int tellTurn(int chips, int player, int star);

        final void forget() {
            told = 0;
        }

        /** Tells the entries with up to so many turns; entry() answers for them alone. */
        final void tell(State game, int most) {
            for (int turns = told; turns <= most; turns++) {
                for (int player = 0; player < PLAYERS; player++) {
                    for (int position = 0; position < POSITIONS; position++) {
                        tellPosition(game, turns, player, position);
                    }
                }
            }
            told = Math.max(told, most + 1);
        }

        final int entry(int turns, int player, int position, int star) {
            return entries[indexOf(turns, player, position) + star];
        }

        final void lookBehind(State game, int turns, int player, int position) {
            for (int star = 0; star < PLAYERS; star++) {
                some[star] = nothing();
                each[star] = everything(game.chips);
                for (int i = 0; i < game.board.counts[position]; i++) {
                    int behind = entry(turns - 1, player, game.board.moveAt(position, i), star);
                    some[star] = either(some[star], behind);
                    each[star] = both(each[star], behind);
                }
            }
        }

        private void tellPosition(State game, int turns, int player, int position) {
            int index = indexOf(turns, player, position);
            if (turns == 0 || game.board.isEnd(position)) {
                int entry = game.board.isWonFor(player, position) ? everything(game.chips) : nothing();
                entries[index] = entry;
                entries[index + 1] = entry;
                return;
            }
            lookBehind(game, turns, player, position);
            entries[index] = tellTurn(game.chips, player, 0);
            entries[index + 1] = tellTurn(game.chips, player, 1);
        }

        private static int indexOf(int turns, int player, int position) {
            return ((turns * PLAYERS + player) * POSITIONS + position) * PLAYERS;
        }
    }

    /** Told by all bids of both players; bit b of an entry: with the budget b. */
    private static final class ForcedBudgets extends Entries {
        int everything(int chips) {
            return (1 << (chips + 1)) - 1;
        }

        int nothing() {
            return 0;
        }

        int either(int one, int two) {
            return one | two;
        }

        int both(int one, int two) {
            return one & two;
        }

        int tellTurn(int chips, int player, int star) {
            int budgets = 0;
            for (int budget = 0; budget <= chips; budget++) {
                if (leastWinningBid(chips, player, budget, star) != NONE) {
                    budgets |= 1 << budget;
                }
            }
            return budgets;
        }

        private int leastWinningBid(int chips, int player, int budget, int star) {
            for (int bid = 0; bid <= budget; bid++) {
                if (leastRefutation(chips, player, budget, star, bid) == NONE) {
                    return bid;
                }
            }
            return NONE;
        }

        private int leastRefutation(int chips, int player, int budget, int star, int bid) {
            int most = chips - budget;
            // behind each lower bid of the other one stands the same, so the bid 0 answers for them all
            if (bid > 0 && !holds(some[star], budget - bid)) {
                return 0;
            }
            if (bid <= most) {
                boolean wins = star == player
                        ? holds(some[1 - star], budget - bid)
                        : holds(each[1 - star], budget + bid);
                if (!wins) {
                    return bid;
                }
            }
            for (int other = bid + 1; other <= most; other++) {
                if (!holds(each[star], budget + other)) {
                    return other;
                }
            }
            return NONE;
        }

        private int positionsOf(State game, int player) {
            int found = 0;
            for (int position = 0; position < POSITIONS; position++) {
                if (holds(entry(game.turns, player, position, game.star), game.budgetOf(player))) {
                    found++;
                }
            }
            return found;
        }
    }

    /** Told by thresholds with one turn fewer alone; an entry is the least budget, above all chips without one. */
    private static final class Thresholds extends Entries {
        private static final int OUT_OF_REACH = MOST_CHIPS + 1;

        int everything(int chips) {
            return 0;
        }

        int nothing() {
            return OUT_OF_REACH;
        }

        int either(int one, int two) {
            return Math.min(one, two);
        }

        int both(int one, int two) {
            return Math.max(one, two);
        }

        int tellTurn(int chips, int player, int star) {
            for (int budget = 0; budget <= chips; budget++) {
                for (int bid = 0; bid <= budget; bid++) {
                    if (reachedBy(bid, budget, chips - budget, player, star)) {
                        return budget;
                    }
                }
            }
            return OUT_OF_REACH;
        }

        private boolean reachedBy(int bid, int budget, int most, int player, int star) {
            if (bid > 0 && budget - bid < some[star]) {
                return false;
            }
            if (bid <= most) {
                boolean reached = star == player
                        ? budget - bid >= some[1 - star]
                        : budget + bid >= each[1 - star];
                if (!reached) {
                    return false;
                }
            }
            // the least higher bid leaves this player the least chips
            return bid >= most || budget + bid + 1 >= each[star];
        }
    }
}
