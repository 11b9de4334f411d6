import java.util.ArrayDeque;
import java.util.ArrayList;
import java.util.Deque;
import java.util.List;

/**
 * The document once more, word by word and without any thought of speed, so that AgainstReferenceTest has
 * something to hold the class against. Nothing of BiddenMoves is used here.
 */
final class Reference {
    private static final class All {
        List<List<Integer>> moves = new ArrayList<>();
        int[] mark = new int[8];
        int[] budget = {4, 4};
        int star = 0, position = 0, bought = -1, chips = 8, turns = 6, ties = 0, refused = 0;
        int[] turnsBought = new int[2];
        int[] paid = new int[2];

        All() {
            for (int i = 0; i < 8; i++) moves.add(new ArrayList<>());
        }

        All copy() {
            All c = new All();
            for (int i = 0; i < 8; i++) c.moves.get(i).addAll(moves.get(i));
            c.mark = mark.clone();
            c.budget = budget.clone();
            c.star = star;
            c.position = position;
            c.bought = bought;
            c.chips = chips;
            c.turns = turns;
            c.ties = ties;
            c.refused = refused;
            c.turnsBought = turnsBought.clone();
            c.paid = paid.clone();
            return c;
        }
    }

    private All all = new All();
    private final Deque<All> saved = new ArrayDeque<>();
    private final All[] slots = new All[2];
    private String buffer = "";
    private byte[] known = null;

    private static void index(boolean good) {
        if (!good) throw new IndexOutOfBoundsException();
    }

    private static void argument(boolean good) {
        if (!good) throw new IllegalArgumentException();
    }

    private static void state(boolean good) {
        if (!good) throw new IllegalStateException();
    }

    private static boolean in(int value, int least, int most) {
        return least <= value && value <= most;
    }

    private void save() {
        saved.addLast(all.copy());
        if (saved.size() > 6) saved.removeFirst();
        known = null;
    }

    private boolean over(int position) {
        return all.mark[position] != 0 || all.moves.get(position).isEmpty();
    }

    int addMove(int position, int to) {
        index(in(position, 0, 7) && in(to, 0, 7));
        argument(position != to);
        List<Integer> moves = all.moves.get(position);
        state(!moves.contains(to) && moves.size() < 4);
        save();
        moves.add(to);
        return moves.size();
    }

    int clearMoves(int position) {
        index(in(position, 0, 7));
        save();
        int size = all.moves.get(position).size();
        all.moves.get(position).clear();
        return size;
    }

    int mark(int position, int mark) {
        index(in(position, 0, 7));
        argument(in(mark, 0, 2));
        save();
        int before = all.mark[position];
        all.mark[position] = mark;
        return before;
    }

    int reverse() {
        save();
        for (int i = 0; i < 8; i++) all.mark[i] = new int[] {0, 2, 1}[all.mark[i]];
        all.budget = new int[] {all.budget[1], all.budget[0]};
        all.star ^= 1;
        if (all.bought >= 0) all.bought ^= 1;
        return all.budget[0];
    }

    int set(int setting, int value) {
        index(in(setting, 0, 1));
        argument(in(value, 0, setting == 0 ? 20 : 12));
        save();
        int before = setting(setting);
        if (setting == 1) {
            all.turns = value;
        } else {
            all.chips = value;
            all.budget = new int[] {value / 2, value - value / 2};
        }
        return before;
    }

    int place(int position, int budget, int star) {
        index(in(position, 0, 7));
        argument(in(budget, 0, all.chips) && in(star, 0, 1));
        save();
        all.position = position;
        all.budget = new int[] {budget, all.chips - budget};
        all.star = star;
        all.bought = -1;
        return over(position) ? 1 : 0;
    }

    int bid(int bid, int other) {
        save();
        int reason = over(all.position) ? 1 : all.bought >= 0 ? 2 : bid < 0 || other < 0 ? 3
                : bid > all.budget[0] || other > all.budget[1] ? 4 : 0;
        if (reason > 0) {
            all.refused++;
            return reason;
        }
        int buyer = all.star;
        int price = bid;
        if (bid > other) buyer = 0;
        if (bid < other) {
            buyer = 1;
            price = other;
        }
        if (bid == other) {
            all.star = buyer == 0 ? 1 : 0;
            all.ties++;
        }
        all.budget[buyer] -= price;
        all.budget[1 - buyer] += price;
        all.turnsBought[buyer]++;
        all.paid[buyer] += price;
        all.bought = buyer;
        return 10 + buyer;
    }

    int move(int to) {
        save();
        int reason = over(all.position) ? 1 : all.bought < 0 ? 2
                : !all.moves.get(all.position).contains(to) ? 3 : 0;
        if (reason > 0) {
            all.refused++;
            return reason;
        }
        all.position = to;
        all.bought = -1;
        return over(to) ? 11 : 10;
    }

    int append(int code) {
        argument(in(code, 33, 126));
        state(buffer.length() < 60);
        buffer += (char) code;
        return buffer.length();
    }

    int clearBuffer() {
        int length = buffer.length();
        buffer = "";
        return length;
    }

    /** All that is asked of a whole text; a text is split here, not read from left to right. */
    private static boolean tellsBoard(String text) {
        String seen = "";
        for (String part : text.split(";", -1)) {
            if (!part.matches("[0-7]:(A|B|[0-7]{1,4})") || seen.indexOf(part.charAt(0)) >= 0) return false;
            seen += part.charAt(0);
            String moves = part.substring(2);
            if (moves.chars().distinct().count() != moves.length() || moves.indexOf(part.charAt(0)) >= 0) return false;
        }
        return true;
    }

    /** Whether a board as a text begins so: one of a few endings makes it one, or there is none. */
    private static boolean begins(String start) {
        if (start.isEmpty()) return true;
        List<String> endings = new ArrayList<>(List.of("", ":A", "A", "0", "1"));
        for (int i = 0; i < 8; i++) endings.add(i + ":A");
        for (String ending : endings) if (tellsBoard(start + ending)) return true;
        return false;
    }

    int firstError() {
        for (int i = 1; i <= buffer.length(); i++) if (!begins(buffer.substring(0, i))) return i - 1;
        return buffer.length();
    }

    int load() {
        argument(tellsBoard(buffer));
        save();
        String[] parts = buffer.split(";");
        for (int i = 0; i < 8; i++) {
            all.moves.get(i).clear();
            all.mark[i] = 0;
        }
        for (String part : parts) {
            int position = part.charAt(0) - '0';
            for (char c : part.substring(2).toCharArray()) {
                if (c == 'A') all.mark[position] = 1;
                else if (c == 'B') all.mark[position] = 2;
                else all.moves.get(position).add(c - '0');
            }
        }
        all.bought = -1;
        buffer = "";
        return parts.length;
    }

    int keep(int slot) {
        argument(in(slot, 0, 1));
        slots[slot] = all.copy();
        return all.position;
    }

    int goBack(int slot) {
        argument(in(slot, 0, 1));
        state(slots[slot] != null);
        save();
        all = slots[slot].copy();
        return all.position;
    }

    int undo() {
        state(!saved.isEmpty());
        all = saved.removeLast();
        known = null;
        return saved.size();
    }

    int positionOf(int position, int what) {
        index(in(position, 0, 7));
        argument(in(what, 0, 6));
        List<Integer> moves = all.moves.get(position);
        if (what == 0) return all.mark[position];
        if (what == 1) return moves.size();
        if (what < 6) return moves.size() > what - 2 ? moves.get(what - 2) : -1;
        return (int) all.moves.stream().filter(m -> m.contains(position)).count();
    }

    int playerOf(int player, int what) {
        index(in(player, 0, 1));
        argument(in(what, 0, 5));
        int number = 0;
        switch (what) {
            case 0: return all.budget[player];
            case 1: return all.star == player ? 1 : 0;
            case 2: return all.turnsBought[player];
            case 3: return all.paid[player];
            case 4:
                for (int i = 0; i < 8; i++) if (all.mark[i] == player + 1) number++;
                return number;
            default:
                for (int i = 0; i < 8; i++) if (can(player, i, all.budget[player], all.star, all.turns)) number++;
                return number;
        }
    }

    int count(int what) {
        argument(in(what, 0, 10));
        switch (what) {
            case 0: return all.position;
            case 1: return over(all.position) ? 1 : 0;
            case 2: return all.mark[all.position] == 0 ? -1 : all.mark[all.position] == 1 ? 0 : 1;
            case 3: return all.bought;
            case 4: return all.star;
            case 5: return all.budget[0] + all.budget[1];
            case 6: return all.turnsBought[0] + all.turnsBought[1];
            case 7: return all.ties;
            case 8: return all.refused;
            case 9: return all.moves.stream().mapToInt(List::size).sum();
            default: return saved.size();
        }
    }

    int setting(int setting) {
        index(in(setting, 0, 1));
        return setting == 0 ? all.chips : all.turns;
    }

    private boolean can(int player, int position, int budget, int star, int turns) {
        if (known == null) known = new byte[2 * 8 * 21 * 2 * 13];
        int key = (((player * 8 + position) * 21 + budget) * 2 + star) * 13 + turns;
        if (known[key] == 0) known[key] = (byte) (works(player, position, budget, star, turns) ? 1 : 2);
        return known[key] == 1;
    }

    private boolean works(int player, int position, int budget, int star, int turns) {
        if (all.mark[position] == player + 1) return true;
        if (all.mark[position] != 0 || all.moves.get(position).isEmpty() || turns == 0) return false;
        for (int bid = 0; bid <= budget; bid++) {
            if (refuting(player, position, budget, star, turns, bid) < 0) return true;
        }
        return false;
    }

    private int refuting(int player, int position, int budget, int star, int turns, int bid) {
        for (int other = 0; other <= all.chips - budget; other++) {
            boolean buys = bid > other || bid == other && star == player;
            int left = buys ? budget - bid : budget + other;
            int holder = bid == other ? 1 - star : star;
            int good = 0;
            for (int to : all.moves.get(position)) if (can(player, to, left, holder, turns - 1)) good++;
            if (buys ? good == 0 : good < all.moves.get(position).size()) return other;
        }
        return -1;
    }

    int force(int player, int position, int budget, int star, int turns) {
        index(in(player, 0, 1) && in(position, 0, 7));
        argument(in(budget, 0, all.chips) && in(star, 0, 1) && in(turns, 0, 12));
        return can(player, position, budget, star, turns) ? 1 : 0;
    }

    int threshold(int player, int position, int star, int what) {
        index(in(player, 0, 1) && in(position, 0, 7));
        argument(in(star, 0, 1) && in(what, 0, 1));
        for (int budget = 0; budget <= all.chips; budget++) {
            if (can(player, position, budget, star, all.turns)) return budget;
        }
        return -1;
    }

    int advice(int player) {
        index(in(player, 0, 1));
        if (over(all.position) || all.turns == 0) return -1;
        for (int bid = 0; bid <= all.budget[player]; bid++) {
            if (refuting(player, all.position, all.budget[player], all.star, all.turns, bid) < 0) return bid;
        }
        return -1;
    }

    int refuted(int player, int bid) {
        index(in(player, 0, 1));
        argument(in(bid, 0, all.budget[player]));
        if (all.mark[all.position] == player + 1) return -1;
        if (over(all.position) || all.turns == 0) return 0;
        return refuting(player, all.position, all.budget[player], all.star, all.turns, bid);
    }

    int bestMove(int player, int bid) {
        index(in(player, 0, 1));
        argument(in(bid, 0, all.budget[player]));
        if (over(all.position) || all.turns == 0) return -1;
        for (int to : all.moves.get(all.position)) {
            if (can(player, to, all.budget[player] - bid, all.star, all.turns - 1)) return to;
        }
        return -1;
    }

    int winIn(int player) {
        index(in(player, 0, 1));
        for (int turns = 0; turns <= 12; turns++) {
            if (can(player, all.position, all.budget[player], all.star, turns)) return turns;
        }
        return -1;
    }

    double forcedShare() {
        int good = 0;
        int of = 0;
        for (int position = 0; position < 8; position++) {
            for (int budget = 0; budget <= all.chips; budget++) {
                for (int star = 0; star < 2; star++) {
                    of++;
                    if (can(0, position, budget, star, all.turns)) good++;
                }
            }
        }
        return (double) good / of;
    }

    long digest() {
        List<Long> values = new ArrayList<>();
        for (int what = 0; what <= 10; what++) values.add((long) count(what));
        values.add((long) setting(0));
        values.add((long) setting(1));
        for (int position = 0; position < 8; position++) {
            for (int what = 0; what <= 6; what++) values.add((long) positionOf(position, what));
            for (int i = 0; i < 8; i++) values.add((long) threshold(i / 4, position, i / 2 % 2, i % 2));
        }
        for (int player = 0; player < 2; player++) {
            for (int what = 0; what <= 5; what++) values.add((long) playerOf(player, what));
            values.add((long) advice(player));
            values.add((long) refuted(player, 0));
            values.add((long) bestMove(player, 0));
            values.add((long) winIn(player));
        }
        values.add(Double.doubleToLongBits(forcedShare()));
        for (All slot : slots) values.add(slot != null ? 1L : 0L);
        values.add((long) buffer.length());
        for (char c : buffer.toCharArray()) values.add((long) c);
        long hash = 3433;
        for (long v : values) hash = 31 * hash + v;
        return hash;
    }
}
