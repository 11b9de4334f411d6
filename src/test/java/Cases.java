import java.util.ArrayList;
import java.util.Arrays;
import java.util.List;
import java.util.TreeMap;
import java.util.TreeSet;

/** What the tests of the document's boundary cases share: cases with names, and objects to try them on. */
abstract class Cases {
    static final Class<? extends RuntimeException> INDEX = IndexOutOfBoundsException.class;
    static final Class<? extends RuntimeException> ARGUMENT = IllegalArgumentException.class;
    static final Class<? extends RuntimeException> STATE = IllegalStateException.class;
    static final int NONE = -1;
    static final int MIN = Integer.MIN_VALUE;
    static final int MAX = Integer.MAX_VALUE;
    /** From 0 to 1 (won for the player 0) and 2 (won for the player 1). */
    static final String FORK = "0:12;1:A;2:B";

    private static final TreeMap<Integer, Integer> cases = new TreeMap<>();
    private static String name = "";
    private static boolean holds = true;
    private static int failed = 0;

    interface Maker {
        BiddenMoves make();
    }

    interface Call {
        long of(BiddenMoves x);
    }

    /** One case of one promise; it fails by an answer that is not due, or by an exception. */
    static void test(int promise, String edge, Runnable body) {
        name = "promise " + promise + ": " + edge;
        holds = true;
        cases.merge(promise, 1, Integer::sum);
        try {
            body.run();
        } catch (RuntimeException e) {
            wrong("threw " + e);
        }
        if (!holds) failed++;
    }

    private static void wrong(String what) {
        holds = false;
        System.out.println(name + ": " + what);
    }

    static void due(long want, long got) {
        if (got != want) wrong("answered " + got + ", due is " + want);
    }

    static void dueAll(long[] want, long... got) {
        if (!Arrays.equals(got, want)) {
            wrong("answered " + Arrays.toString(got) + ", due is " + Arrays.toString(want));
        }
    }

    static long[] row(long... values) {
        return values;
    }

    /** The bits tell -0.0 and 0.0 apart. */
    static void dueShare(double want, double got) {
        if (Double.doubleToLongBits(got) != Double.doubleToLongBits(want)) {
            wrong("answered " + got + ", due is " + want);
        }
    }

    /** The exception's own class must be the one named, not one below it; and the call must change nothing. */
    static void dueThrow(Class<? extends RuntimeException> want, Maker maker, Call call) {
        BiddenMoves x = maker.make();
        Class<?> got = null;
        try {
            call.of(x);
        } catch (RuntimeException e) {
            got = e.getClass();
        }
        if (got != want) wrong("threw " + got + ", due is " + want);
        if (!history(x).equals(history(maker.make()))) wrong("changed something, though it threw");
    }

    static void dueThrow(Class<? extends RuntimeException> want, Call call) {
        dueThrow(want, Cases::rich, call);
        dueThrow(want, Cases::strange, call);
    }

    /** The call changes nothing at all. */
    static void dueSame(Maker maker, Call call) {
        BiddenMoves x = maker.make();
        call.of(x);
        if (!history(x).equals(history(maker.make()))) wrong("changed something");
    }

    static void dueSame(Call call) {
        dueSame(Cases::rich, call);
        dueSame(Cases::strange, call);
    }

    /**
     * Of what looks() shows, the call changes just what is named; and neither a slot nor the buffer. The maker's
     * objects have six saved states.
     */
    static void dueChanges(String changed, Maker maker, Call call) {
        BiddenMoves x = maker.make();
        BiddenMoves same = maker.make();
        call.of(x);
        TreeMap<String, Long> then = named(x);
        TreeSet<String> differ = new TreeSet<>();
        named(same).forEach((what, value) -> {
            if (!value.equals(then.get(what))) differ.add(what);
        });
        TreeSet<String> want = new TreeSet<>();
        for (String what : changed.split(" ")) if (!what.isEmpty()) want.add(what);
        if (!differ.equals(want)) wrong("changed " + differ + ", due is " + want);
        for (int slot = 0; slot < 2; slot++) {
            x.goBack(slot);
            same.goBack(slot);
            if (x.digest() != same.digest()) wrong("changed the slot " + slot + " or the buffer");
        }
    }

    /** What looks() shows, by names; but for the positions at which a win can be forced. */
    private static TreeMap<String, Long> named(BiddenMoves x) {
        TreeMap<String, Long> seen = new TreeMap<>();
        for (int what = 0; what <= 9; what++) seen.put("count" + what, (long) x.count(what));
        for (int setting = 0; setting < 2; setting++) seen.put("setting" + setting, (long) x.setting(setting));
        for (int position = 0; position < 8; position++) {
            for (int what = 0; what <= 6; what++) {
                seen.put("position" + position + "." + what, (long) x.positionOf(position, what));
            }
        }
        for (int player = 0; player < 2; player++) {
            for (int what = 0; what <= 4; what++) {
                seen.put("player" + player + "." + what, (long) x.playerOf(player, what));
            }
        }
        return seen;
    }

    /** All that can be seen of the present state, but for the buffer, the slots and the saved states. */
    static List<Long> looks(BiddenMoves x) {
        List<Long> seen = new ArrayList<>();
        for (int what = 0; what <= 9; what++) seen.add((long) x.count(what));
        for (int setting = 0; setting < 2; setting++) seen.add((long) x.setting(setting));
        for (int position = 0; position < 8; position++) {
            for (int what = 0; what <= 6; what++) seen.add((long) x.positionOf(position, what));
        }
        for (int player = 0; player < 2; player++) {
            for (int what = 0; what <= 5; what++) seen.add((long) x.playerOf(player, what));
        }
        return seen;
    }

    static void dueLooks(List<Long> want, List<Long> got) {
        if (!got.equals(want)) wrong("shows " + got + ", due is " + want);
    }

    /** All that can be seen, and all that undo() and goBack() bring back; the object is spent by it. */
    private static List<Long> history(BiddenMoves x) {
        List<Long> seen = new ArrayList<>();
        seen.add(x.digest());
        while (x.count(10) > 0) {
            seen.add((long) x.undo());
            seen.add(x.digest());
        }
        for (int slot = 0; slot < 2; slot++) {
            try {
                seen.add((long) x.goBack(slot));
                seen.add(x.digest());
            } catch (IllegalStateException e) {
                seen.add(Long.MIN_VALUE);
            }
        }
        return seen;
    }

    /** One more state is saved by the call, at most six; and undo() brings back what was before it. */
    static void dueUndone(Call call) {
        BiddenMoves few = few();
        long saved = few.count(10);
        call.of(few);
        due(saved + 1, few.count(10));
        due(saved, few.undo());
        if (!history(few).equals(history(few()))) wrong("is not undone");
        dueUndoneOfSix(rich(), rich(), call);
        dueUndoneOfSix(strange(), strange(), call);
    }

    private static void dueUndoneOfSix(BiddenMoves x, BiddenMoves same, Call call) {
        call.of(x);
        due(6, x.count(10));
        due(5, x.undo());
        dueLooks(looks(same), looks(x));
    }

    static void type(BiddenMoves x, String text) {
        x.clearBuffer();
        for (char c : text.toCharArray()) x.append(c);
    }

    /** One state is saved then, by load(). */
    static BiddenMoves board(String text) {
        BiddenMoves x = new BiddenMoves();
        type(x, text);
        x.load();
        return x;
    }

    /** A board, and the game placed at the position 0. */
    static BiddenMoves board(String text, int chips, int budget, int star) {
        BiddenMoves x = board(text);
        x.set(0, chips);
        x.place(0, budget, star);
        return x;
    }

    /**
     * An object with all that a call could change though it must not: a bought turn, counts, other settings
     * than at first, six saved states, two snapshots, a text. The budgets are 6 and 3, the star is with 0.
     */
    static BiddenMoves rich() {
        BiddenMoves x = board("0:1234;1:A;2:B;3:01;4:0;5:02");
        x.set(0, 9);
        x.set(1, 5);
        x.keep(0);
        x.place(3, 6, 1);
        x.bid(10, 0);
        x.bid(2, 2);
        x.keep(1);
        x.move(0);
        x.bid(2, 1);
        type(x, "0:1;7:");
        return x;
    }

    /**
     * As rich(), but with another position, the star and the turn with the player 1, and a mark of the position 0:
     * whatever a new object has is otherwise here. The budgets are 6 and 3, too.
     */
    static BiddenMoves strange() {
        BiddenMoves x = board("0:1234;1:A;2:B;3:01;4:0;5:02;6:3");
        x.set(0, 9);
        x.set(1, 5);
        x.keep(0);
        x.mark(0, 2);
        x.place(6, 4, 0);
        x.bid(10, 0);
        x.bid(2, 2);
        x.move(3);
        x.keep(1);
        x.bid(0, 4);
        type(x, "0:1;7:");
        return x;
    }

    /** As rich(), but with two saved states and one snapshot alone. */
    static BiddenMoves few() {
        BiddenMoves x = board("0:1234;1:A;2:B;3:01;4:0;5:02");
        x.keep(1);
        x.bid(2, 1);
        type(x, "0:1;7:");
        return x;
    }

    /** Fails the run if a case failed, or a promise from the first one to the last one has no case. */
    static void end(int first, int last) {
        int all = 0;
        for (int promise = first; promise <= last; promise++) {
            int some = cases.getOrDefault(promise, 0);
            if (some == 0) {
                failed++;
                System.out.println("promise " + promise + " has no case");
            }
            all += some;
        }
        System.out.println(all + " cases of the promises " + first + " to " + last + ", " + failed + " failed");
        if (failed != 0) System.exit(1);
    }
}
