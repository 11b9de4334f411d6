import java.util.Random;
import java.util.TreeMap;

/** Runs of calls, made up by a fixed seed, each answered by BiddenMoves and by Reference alike. */
public final class AgainstReferenceTest {
    private static final int RUNS = 1500;
    private static final int CALLS = 512;
    private static int wrong = 0;
    private static final TreeMap<String, Integer> answers = new TreeMap<>();

    private final Random random;
    private final BiddenMoves moves = new BiddenMoves();
    private final Reference reference = new Reference();
    /** Out of 100 arguments so many are out of range or at an edge. */
    private final int wild;
    private final int looks;

    private AgainstReferenceTest(long seed) {
        random = new Random(seed);
        wild = new int[] {0, 2, 15}[random.nextInt(3)];
        looks = new int[] {20, 50, 80}[random.nextInt(3)];
    }

    private interface Call {
        long answer();
    }

    private static String outcome(Call call) {
        try {
            return Long.toString(call.answer());
        } catch (RuntimeException e) {
            // what the machine throws has a class of its own, below or beside those of the document
            return e.getClass().getName();
        }
    }

    private boolean same(String name, Call mine, Call due) {
        String got = outcome(mine);
        String want = outcome(due);
        String kind = name.substring(0, name.indexOf('(')) + (want.startsWith("java") ? " " + want : "");
        answers.merge(kind, 1, Integer::sum);
        if (got.equals(want)) return true;
        wrong++;
        System.out.println(name + " answered " + got + ", due is " + want);
        return false;
    }

    private int number(int most) {
        if (random.nextInt(100) >= wild) return random.nextInt(most + 1);
        int[] edges = {-1, most + 1, most, 0, Integer.MIN_VALUE, Integer.MAX_VALUE, most + 2, -2};
        return edges[random.nextInt(edges.length)];
    }

    private String sign() {
        return "01234567:;AB".substring(random.nextInt(12)).substring(0, 1);
    }

    private String text() {
        StringBuilder text = new StringBuilder();
        String free = "01234567";
        int parts = 1 + random.nextInt(8);
        for (int i = 0; i < parts; i++) {
            int at = i == 0 && random.nextBoolean() ? 0 : random.nextInt(free.length());
            char position = free.charAt(at);
            free = free.replace("" + position, "");
            text.append(i > 0 ? ";" : "").append(position).append(':');
            int kind = random.nextInt(5);
            if (kind < 2) {
                text.append(kind == 0 ? 'A' : 'B');
                continue;
            }
            String targets = "01234567".replace("" + position, "");
            for (int n = 1 + random.nextInt(4); n > 0; n--) {
                char to = targets.charAt(random.nextInt(targets.length()));
                targets = targets.replace("" + to, "");
                text.append(to);
            }
        }
        if (random.nextInt(3) == 0) {
            int at = random.nextInt(text.length() + 1);
            int change = random.nextInt(4);
            if (change == 0) text.insert(at, sign());
            else if (change == 1) text.append(sign());
            else if (change == 2) text.setLength(at);
            else if (at < text.length()) text.setCharAt(at, sign().charAt(0));
        }
        return text.toString();
    }

    private int calls = 0;

    private boolean append(int code) {
        calls++;
        return same("append(" + code + ")", () -> moves.append(code), () -> reference.append(code));
    }

    private boolean loads() {
        calls += 3;
        boolean good = same("clearBuffer()", moves::clearBuffer, reference::clearBuffer);
        for (char c : text().toCharArray()) good &= append(c);
        good &= same("firstError()", moves::firstError, reference::firstError);
        return good & same("load()", moves::load, reference::load);
    }

    private boolean change() {
        calls++;
        int position = number(7);
        int to = number(7);
        int player = number(1);
        switch (random.nextInt(17)) {
            case 0:
            case 1:
            case 2:
                return same("addMove(" + position + ", " + to + ")",
                        () -> moves.addMove(position, to), () -> reference.addMove(position, to));
            case 3:
                if (random.nextInt(4) > 0) return true;
                return same("clearMoves(" + position + ")",
                        () -> moves.clearMoves(position), () -> reference.clearMoves(position));
            case 4:
                int mark = number(2);
                return same("mark(" + position + ", " + mark + ")",
                        () -> moves.mark(position, mark), () -> reference.mark(position, mark));
            case 5:
                return same("reverse()", moves::reverse, reference::reverse);
            case 6:
                int setting = number(1);
                int value = number(setting == 0 ? 20 : 12);
                return same("set(" + setting + ", " + value + ")",
                        () -> moves.set(setting, value), () -> reference.set(setting, value));
            case 7:
            case 8:
                int budget = number(reference.setting(0));
                return same("place(" + position + ", " + budget + ", " + player + ")",
                        () -> moves.place(position, budget, player), () -> reference.place(position, budget, player));
            case 9:
            case 10:
            case 11:
                int bid = number(reference.playerOf(0, 0) + (random.nextInt(5) == 0 ? 1 : 0));
                int other = random.nextInt(3) == 0 ? bid : number(reference.playerOf(1, 0));
                return same("bid(" + bid + ", " + other + ")",
                        () -> moves.bid(bid, other), () -> reference.bid(bid, other));
            case 12:
            case 13:
                int first = reference.positionOf(reference.count(0), 2 + random.nextInt(2));
                int goal = random.nextInt(3) > 0 ? first : to;
                return same("move(" + goal + ")", () -> moves.move(goal), () -> reference.move(goal));
            case 14:
                return same("keep(" + player + ")", () -> moves.keep(player), () -> reference.keep(player));
            case 15:
                return same("goBack(" + player + ")", () -> moves.goBack(player), () -> reference.goBack(player));
            default:
                return same("undo()", moves::undo, reference::undo);
        }
    }

    private boolean look() {
        calls++;
        int position = number(7);
        int player = number(1);
        int star = number(1);
        int bid = number(player == 0 || player == 1 ? reference.playerOf(player, 0) : 4);
        switch (random.nextInt(13)) {
            case 0:
                int property = number(6);
                return same("positionOf(" + position + ", " + property + ")",
                        () -> moves.positionOf(position, property), () -> reference.positionOf(position, property));
            case 1:
                int what = number(5);
                return same("playerOf(" + player + ", " + what + ")",
                        () -> moves.playerOf(player, what), () -> reference.playerOf(player, what));
            case 2:
                int which = number(10);
                return same("count(" + which + ")", () -> moves.count(which), () -> reference.count(which));
            case 3:
                return same("setting(" + star + ")", () -> moves.setting(star), () -> reference.setting(star));
            case 4:
                int budget = number(reference.setting(0));
                int turns = number(12);
                return same("force(" + player + ", " + position + ", " + budget + ", " + star + ", " + turns + ")",
                        () -> moves.force(player, position, budget, star, turns),
                        () -> reference.force(player, position, budget, star, turns));
            case 5:
            case 6:
                int way = number(1);
                return same("threshold(" + player + ", " + position + ", " + star + ", " + way + ")",
                        () -> moves.threshold(player, position, star, way),
                        () -> reference.threshold(player, position, star, way));
            case 7:
                return same("advice(" + player + ")", () -> moves.advice(player), () -> reference.advice(player));
            case 8:
                return same("refuted(" + player + ", " + bid + ")",
                        () -> moves.refuted(player, bid), () -> reference.refuted(player, bid));
            case 9:
                return same("bestMove(" + player + ", " + bid + ")",
                        () -> moves.bestMove(player, bid), () -> reference.bestMove(player, bid));
            case 10:
                return same("winIn(" + player + ")", () -> moves.winIn(player), () -> reference.winIn(player));
            case 11:
                return same("forcedShare()", () -> Double.doubleToLongBits(moves.forcedShare()),
                        () -> Double.doubleToLongBits(reference.forcedShare()));
            default:
                return same("digest()", moves::digest, reference::digest);
        }
    }

    private boolean step() {
        int kind = random.nextInt(100);
        if (kind < looks) return look();
        if (kind == 99) return append(number(1) == 0 ? number(127) : sign().charAt(0));
        return random.nextInt(12) == 0 ? loads() : change();
    }

    public static void main(String[] args) {
        for (int run = 0; run < RUNS; run++) {
            AgainstReferenceTest test = new AgainstReferenceTest(run);
            if (run % 3 > 0) test.loads();
            while (test.calls < CALLS - 80) {
                if (!test.step()) {
                    System.out.println("in run " + run);
                    break;
                }
            }
            test.same("digest()", test.moves::digest, test.reference::digest);
        }
        int asked = answers.values().stream().mapToInt(Integer::intValue).sum();
        System.out.println(answers.size() + " kinds of answers");
        System.out.println(wrong == 0 ? "all " + asked + " answers are as due" : wrong + " answers are not as due");
        if (wrong != 0) System.exit(1);
    }
}
