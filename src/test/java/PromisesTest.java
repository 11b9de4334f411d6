import java.lang.reflect.Constructor;
import java.lang.reflect.Field;
import java.lang.reflect.Method;
import java.lang.reflect.Modifier;
import java.util.Arrays;
import java.util.TreeSet;

/** The promises of the document, one by one, with numbers found by hand. */
public final class PromisesTest {
    private static final Class<? extends RuntimeException> INDEX = IndexOutOfBoundsException.class;
    private static final Class<? extends RuntimeException> ARGUMENT = IllegalArgumentException.class;
    private static final Class<? extends RuntimeException> STATE = IllegalStateException.class;
    private static final int MIN = Integer.MIN_VALUE;
    private static final int MAX = Integer.MAX_VALUE;
    /** From 0 to 1 (won for the player 0) and 2 (won for the player 1). */
    private static final String FORK = "0:12;1:A;2:B";

    private static int wrong = 0;
    private static int asked = 0;
    private static String promise = "";

    private interface Call {
        long answer();
    }

    private static void due(String call, long got, long want) {
        asked++;
        if (got != want) {
            wrong++;
            System.out.println(promise + ": " + call + " answered " + got + ", due is " + want);
        }
    }

    private static void dueOf(String call, double got, double want) {
        due(call, Double.doubleToLongBits(got), Double.doubleToLongBits(want));
    }

    /** The exception's own class must be the one named, not one below it; and the call must change nothing. */
    private static void dueThrow(String call, BiddenMoves x, Class<? extends RuntimeException> want, Call made) {
        asked++;
        long before = x.digest();
        Class<?> got = null;
        try {
            made.answer();
        } catch (RuntimeException e) {
            got = e.getClass();
        }
        if (got != want) {
            wrong++;
            System.out.println(promise + ": " + call + " threw " + got + ", due is " + want);
        }
        due(call + " changes", x.digest() - before, 0);
    }

    private static void type(BiddenMoves x, String text) {
        x.clearBuffer();
        for (char c : text.toCharArray()) x.append(c);
    }

    private static BiddenMoves board(String text) {
        BiddenMoves x = new BiddenMoves();
        type(x, text);
        x.load();
        return x;
    }

    private static void dueState(BiddenMoves x, String name, int what, int... want) {
        for (int i = 0; i < want.length; i++) {
            due(name + " " + (what + i), name.equals("count") ? x.count(what + i) : x.playerOf(name.charAt(6) - '0', what + i),
                    want[i]);
        }
    }

    private static void newObject() {
        BiddenMoves x = new BiddenMoves();
        dueState(x, "count", 0, 0, 1, -1, -1, 0, 8, 0, 0, 0, 0, 0);
        dueState(x, "player0", 0, 4, 1, 0, 0, 0, 0);
        dueState(x, "player1", 0, 4, 0, 0, 0, 0, 0);
        due("setting(0)", x.setting(0), 8);
        due("setting(1)", x.setting(1), 6);
        due("clearBuffer()", x.clearBuffer(), 0);
        for (int position = 0; position < 8; position++) {
            due("its mark", x.positionOf(position, 0), 0);
            due("its moves", x.positionOf(position, 1), 0);
        }
        dueThrow("goBack(0)", x, STATE, () -> x.goBack(0));
        dueThrow("goBack(1)", x, STATE, () -> x.goBack(1));
        dueThrow("undo()", x, STATE, x::undo);
        due("NONE", BiddenMoves.NONE, -1);
    }

    private static void addMove() {
        BiddenMoves x = new BiddenMoves();
        due("addMove(0, 7)", x.addMove(0, 7), 1);
        due("addMove(0, 3)", x.addMove(0, 3), 2);
        due("addMove(7, 0)", x.addMove(7, 0), 1);
        due("addMove(0, 1)", x.addMove(0, 1), 3);
        dueThrow("addMove(0, 3)", x, STATE, () -> x.addMove(0, 3));
        due("addMove(0, 2)", x.addMove(0, 2), 4);
        dueThrow("a fifth move", x, STATE, () -> x.addMove(0, 4));
        dueThrow("addMove(0, 0)", x, ARGUMENT, () -> x.addMove(0, 0));
        dueThrow("addMove(8, 8)", x, INDEX, () -> x.addMove(8, 8));
        dueThrow("addMove(0, 8)", x, INDEX, () -> x.addMove(0, 8));
        dueThrow("addMove(-1, 0)", x, INDEX, () -> x.addMove(-1, 0));
        dueThrow("addMove(0, -1)", x, INDEX, () -> x.addMove(0, -1));
        dueThrow("addMove(MIN, MAX)", x, INDEX, () -> x.addMove(MIN, MAX));
        int[] inOrder = {7, 3, 1, 2};
        for (int i = 0; i < 4; i++) due("move " + i, x.positionOf(0, 2 + i), inOrder[i]);
        due("saved", x.count(10), 5);
        due("undo()", x.undo(), 4);
        due("moves then", x.positionOf(0, 1), 3);
        x.mark(5, 1);
        due("a move of a position with a mark", x.addMove(5, 0), 1);
    }

    private static void clearMoves() {
        BiddenMoves x = board("0:123;1:0;2:B");
        due("clearMoves(0)", x.clearMoves(0), 3);
        due("clearMoves(0)", x.clearMoves(0), 0);
        due("clearMoves(2)", x.clearMoves(2), 0);
        due("moves of 0", x.positionOf(0, 1), 0);
        due("moves of 1", x.positionOf(1, 1), 1);
        due("mark of 2", x.positionOf(2, 0), 2);
        due("saved", x.count(10), 4);
        dueThrow("clearMoves(8)", x, INDEX, () -> x.clearMoves(8));
        dueThrow("clearMoves(-1)", x, INDEX, () -> x.clearMoves(-1));
        x.undo();
        x.undo();
        x.undo();
        due("third move after undo", x.positionOf(0, 4), 3);
    }

    private static void mark() {
        BiddenMoves x = board("0:12");
        due("mark(0, 2)", x.mark(0, 2), 0);
        due("mark(0, 1)", x.mark(0, 1), 2);
        due("mark(0, 1)", x.mark(0, 1), 1);
        due("over", x.count(1), 1);
        due("won for", x.count(2), 0);
        due("moves stay", x.positionOf(0, 1), 2);
        due("mark(0, 0)", x.mark(0, 0), 1);
        due("over", x.count(1), 0);
        due("mark(7, 2)", x.mark(7, 2), 0);
        due("saved", x.count(10), 6);
        dueThrow("mark(8, 3)", x, INDEX, () -> x.mark(8, 3));
        dueThrow("mark(-1, 0)", x, INDEX, () -> x.mark(-1, 0));
        dueThrow("mark(0, 3)", x, ARGUMENT, () -> x.mark(0, 3));
        dueThrow("mark(0, -1)", x, ARGUMENT, () -> x.mark(0, -1));
        x.undo();
        due("mark of 7 after undo", x.positionOf(7, 0), 0);
    }

    private static void reverse() {
        BiddenMoves x = board("0:12;1:A;2:B;3:A");
        x.place(0, 6, 1);
        x.bid(3, 2);
        due("reverse()", x.reverse(), 5);
        dueState(x, "player0", 0, 5, 1, 1, 3, 1);
        dueState(x, "player1", 0, 3, 0, 0, 0, 2);
        due("who bought", x.count(3), 1);
        due("mark of 1", x.positionOf(1, 0), 2);
        due("mark of 2", x.positionOf(2, 0), 1);
        due("mark of 0", x.positionOf(0, 0), 0);
        due("saved", x.count(10), 4);
        due("reverse()", x.reverse(), 3);
        due("who bought", x.count(3), 0);
        x.move(1);
        due("reverse()", x.reverse(), 5);
        due("no turn bought", x.count(3), -1);
        x.undo();
        due("budget after undo", x.playerOf(0, 0), 3);
    }

    private static void set() {
        BiddenMoves x = board(FORK);
        x.place(0, 7, 1);
        x.bid(4, 0);
        due("set(0, 11)", x.set(0, 11), 8);
        dueState(x, "player0", 0, 5, 0, 1, 4);
        dueState(x, "player1", 0, 6, 1, 0, 0);
        due("who bought", x.count(3), 0);
        due("all chips", x.count(5), 11);
        due("set(1, 12)", x.set(1, 12), 6);
        due("set(1, 0)", x.set(1, 0), 12);
        due("budget stays", x.playerOf(0, 0), 5);
        x.place(0, 9, 0);
        due("set(0, 11)", x.set(0, 11), 11);
        due("budget as at first", x.playerOf(0, 0), 5);
        due("set(0, 0)", x.set(0, 0), 11);
        due("budgets", x.playerOf(0, 0) + x.playerOf(1, 0), 0);
        due("set(0, 20)", x.set(0, 20), 0);
        due("budget", x.playerOf(1, 0), 10);
        due("saved", x.count(10), 6);
        due("position", x.count(0), 0);
        dueThrow("set(2, 99)", x, INDEX, () -> x.set(2, 99));
        dueThrow("set(-1, 0)", x, INDEX, () -> x.set(-1, 0));
        dueThrow("set(0, 21)", x, ARGUMENT, () -> x.set(0, 21));
        dueThrow("set(0, -1)", x, ARGUMENT, () -> x.set(0, -1));
        dueThrow("set(1, 13)", x, ARGUMENT, () -> x.set(1, 13));
        dueThrow("set(1, -1)", x, ARGUMENT, () -> x.set(1, -1));
        x.undo();
        due("chips after undo", x.setting(0), 0);
    }

    private static void place() {
        BiddenMoves x = board("0:12;1:A;3:0");
        x.bid(1, 0);
        due("place(3, 8, 1)", x.place(3, 8, 1), 0);
        dueState(x, "count", 0, 3, 0, -1, -1, 1, 8, 1);
        dueState(x, "player0", 0, 8, 0, 1, 1);
        due("place(1, 0, 0)", x.place(1, 0, 0), 1);
        due("place(2, 0, 0)", x.place(2, 0, 0), 1);
        dueState(x, "player1", 0, 8, 0);
        due("saved", x.count(10), 5);
        dueThrow("place(8, 9, 2)", x, INDEX, () -> x.place(8, 9, 2));
        dueThrow("place(-1, 0, 0)", x, INDEX, () -> x.place(-1, 0, 0));
        dueThrow("place(0, 9, 0)", x, ARGUMENT, () -> x.place(0, 9, 0));
        dueThrow("place(0, -1, 0)", x, ARGUMENT, () -> x.place(0, -1, 0));
        dueThrow("place(0, 0, 2)", x, ARGUMENT, () -> x.place(0, 0, 2));
        dueThrow("place(0, 0, -1)", x, ARGUMENT, () -> x.place(0, 0, -1));
        x.undo();
        x.undo();
        x.undo();
        due("who bought after undo", x.count(3), 0);
    }

    private static void bid() {
        BiddenMoves x = board("0:12;1:0");
        due("bid(5, -1)", x.bid(5, -1), 3);
        due("bid(-1, 0)", x.bid(-1, 0), 3);
        due("bid(5, 0)", x.bid(5, 0), 4);
        due("bid(0, 5)", x.bid(0, 5), 4);
        due("bid(MAX, MIN)", x.bid(MAX, MIN), 3);
        due("bid(MAX, MAX)", x.bid(MAX, MAX), 4);
        dueState(x, "count", 6, 0, 0, 6, 3, 6);
        due("bid(4, 3)", x.bid(4, 3), 10);
        dueState(x, "player0", 0, 0, 1, 1, 4);
        dueState(x, "player1", 0, 8, 0, 0, 0);
        dueState(x, "count", 0, 0, 0, -1, 0, 0, 8, 1, 0, 6);
        due("bid(-1, 0)", x.bid(-1, 0), 2);
        x.mark(0, 1);
        due("bid over and bought", x.bid(0, 0), 1);
        x.mark(0, 0);
        x.move(1);
        due("bid(0, 8)", x.bid(0, 8), 11);
        dueState(x, "player1", 0, 0, 0, 1, 8);
        x.move(0);
        due("a tie for the star of 0", x.bid(0, 0), 10);
        dueState(x, "count", 4, 1, 8, 3, 1);
        x.move(1);
        x.place(1, 5, 1);
        due("a tie for the star of 1", x.bid(2, 2), 11);
        dueState(x, "player0", 0, 7, 1, 2, 4);
        dueState(x, "player1", 0, 1, 0, 2, 10);
        due("ties", x.count(7), 2);
        x.undo();
        due("ties after undo", x.count(7), 1);
        due("star after undo", x.count(4), 1);
        x.place(5, 5, 1);
        due("bid where no move is", x.bid(-1, 99), 1);
        int refused = x.count(8);
        x.undo();
        due("refused after undo", x.count(8), refused - 1);
    }

    private static void move() {
        BiddenMoves x = board("0:13;1:A;3:0");
        due("move(1)", x.move(1), 2);
        due("move(9)", x.move(9), 2);
        x.bid(1, 0);
        due("move(2)", x.move(2), 3);
        due("move(0)", x.move(0), 3);
        due("move(MIN)", x.move(MIN), 3);
        due("refused", x.count(8), 5);
        due("move(3)", x.move(3), 10);
        dueState(x, "count", 0, 3, 0, -1, -1);
        x.bid(0, 0);
        due("move(0)", x.move(0), 10);
        x.bid(0, 1);
        due("move(1)", x.move(1), 11);
        due("won for", x.count(2), 0);
        due("move where it is over", x.move(1), 1);
        due("refused", x.count(8), 6);
        due("undo()", x.undo(), 5);
        due("refused", x.count(8), 5);
        x.undo();
        due("who bought", x.count(3), 1);
        x.mark(0, 2);
        due("move over and bought", x.move(1), 1);
        due("who bought still", x.count(3), 1);
        x.mark(0, 0);
        due("to a position without moves", board("0:7").bid(0, 0), 10);
        BiddenMoves y = board("0:7");
        y.bid(0, 0);
        due("move(7)", y.move(7), 11);
        due("won for", y.count(2), -1);
    }

    private static void append() {
        BiddenMoves x = new BiddenMoves();
        due("append(33)", x.append(33), 1);
        due("append(126)", x.append(126), 2);
        dueThrow("append(32)", x, ARGUMENT, () -> x.append(32));
        dueThrow("append(127)", x, ARGUMENT, () -> x.append(127));
        dueThrow("append(MIN)", x, ARGUMENT, () -> x.append(MIN));
        for (int i = 3; i <= 60; i++) due("append(65)", x.append(65), i);
        dueThrow("append(65)", x, STATE, () -> x.append(65));
        dueThrow("append(32)", x, ARGUMENT, () -> x.append(32));
        due("saved", x.count(10), 0);
        due("clearBuffer()", x.clearBuffer(), 60);
    }

    private static void clearBuffer() {
        BiddenMoves x = new BiddenMoves();
        due("clearBuffer()", x.clearBuffer(), 0);
        type(x, "0:1");
        due("clearBuffer()", x.clearBuffer(), 3);
        due("clearBuffer()", x.clearBuffer(), 0);
        due("append(48)", x.append(48), 1);
        due("saved", x.count(10), 0);
    }

    private static void dueError(String text, int want, boolean whole) {
        BiddenMoves x = new BiddenMoves();
        type(x, text);
        due("firstError() of " + text, x.firstError(), want);
        due("firstError() again", x.firstError(), want);
        if (whole) {
            due("load() of " + text, x.load(), text.split(";").length);
            due("the buffer after load()", x.clearBuffer(), 0);
        } else {
            dueThrow("load() of " + text, x, ARGUMENT, x::load);
            due("the buffer after load()", x.clearBuffer(), text.length());
        }
    }

    private static void firstError() {
        String most = "0:1234;1:2345;2:3456;3:4567;4:5670;5:6701;6:7012;7:0123";
        dueError("", 0, false);
        dueError("0", 1, false);
        dueError("0:", 2, false);
        dueError("0:1", 3, true);
        dueError("7:A", 3, true);
        dueError("7:B", 3, true);
        dueError("7:C", 2, false);
        dueError("7:a", 2, false);
        dueError("8:1", 0, false);
        dueError("7:8", 2, false);
        dueError(":", 0, false);
        dueError(";0:1", 0, false);
        dueError("A", 0, false);
        dueError("00", 1, false);
        dueError("0;", 1, false);
        dueError("0::", 2, false);
        dueError("0:;", 2, false);
        dueError("0:0", 2, false);
        dueError("0:10", 3, false);
        dueError("0:11", 3, false);
        dueError("0:121", 4, false);
        dueError("0:1A", 3, false);
        dueError("0:A1", 3, false);
        dueError("0:AB", 3, false);
        dueError("0:1:", 3, false);
        dueError("5:7643", 6, true);
        dueError("5:76432", 6, false);
        dueError("0:1;", 4, false);
        dueError("0:1;;", 4, false);
        dueError("0:1;0", 4, false);
        dueError("0:1;1:A;1:B", 8, false);
        dueError("3:A;1:B;2:31", 12, true);
        dueError(most, 55, true);
        dueError(most + ";", 55, false);
        dueError(most + "4", 55, false);
        dueError("0:A;1:A;2:A;3:A;4:A;5:A;6:A;7:A", 31, true);
        dueError("0:A;1:A;2:A;3:A;4:A;5:A;6:A;7:A;", 31, false);
    }

    private static void load() {
        BiddenMoves x = board("0:1234;4:A;5:60");
        x.place(5, 3, 1);
        x.bid(1, 2);
        type(x, "5:01;0:B;6:71");
        due("load()", x.load(), 3);
        dueState(x, "count", 0, 5, 0, -1, -1, 1, 8, 1, 0, 0, 4, 4);
        due("mark of 0", x.positionOf(0, 0), 2);
        due("moves of 0", x.positionOf(0, 1), 0);
        due("mark of 4", x.positionOf(4, 0), 0);
        due("first move of 5", x.positionOf(5, 2), 0);
        due("second move of 5", x.positionOf(5, 3), 1);
        due("first move of 6", x.positionOf(6, 2), 7);
        due("budget stays", x.playerOf(0, 0), 5);
        due("the buffer", x.clearBuffer(), 0);
        type(x, "0:");
        dueThrow("load()", x, ARGUMENT, x::load);
        due("undo()", x.undo(), 3);
        due("the buffer stays", x.clearBuffer(), 2);
        due("who bought", x.count(3), 1);
        due("fourth move of 0", x.positionOf(0, 5), 4);
    }

    private static void snapshots() {
        BiddenMoves x = board(FORK);
        x.bid(1, 1);
        promise = "promise 14";
        due("keep(1)", x.keep(1), 0);
        due("saved", x.count(10), 2);
        dueThrow("keep(2)", x, ARGUMENT, () -> x.keep(2));
        dueThrow("keep(-1)", x, ARGUMENT, () -> x.keep(-1));
        x.move(2);
        due("keep(0)", x.keep(0), 2);
        x.set(0, 13);
        x.set(1, 3);
        x.clearMoves(0);
        x.mark(1, 0);
        x.bid(0, 0);
        type(x, "0:7");
        promise = "promise 15";
        dueThrow("goBack(2)", x, ARGUMENT, () -> x.goBack(2));
        dueThrow("goBack(-1)", x, ARGUMENT, () -> x.goBack(-1));
        due("goBack(1)", x.goBack(1), 0);
        dueState(x, "count", 0, 0, 0, -1, 0, 1, 8, 1, 1, 0, 2, 6);
        due("setting(1)", x.setting(1), 6);
        due("mark of 1", x.positionOf(1, 0), 1);
        due("the buffer stays", x.clearBuffer(), 3);
        x.clearMoves(0);
        due("goBack(1) once more", x.goBack(1), 0);
        due("moves", x.count(9), 2);
        due("undo()", x.undo(), 5);
        due("moves", x.count(9), 0);
        due("undo()", x.undo(), 4);
        due("undo()", x.undo(), 3);
        due("refused", x.count(8), 1);
        due("chips", x.count(5), 13);
        due("goBack(0)", x.goBack(0), 2);
        due("won for", x.count(2), 1);
        promise = "promise 14";
        x.place(1, 0, 0);
        due("keep(0) in place of it", x.keep(0), 1);
        x.place(2, 0, 0);
        due("goBack(0)", x.goBack(0), 1);
        BiddenMoves y = new BiddenMoves();
        y.keep(0);
        dueThrow("goBack(1)", y, STATE, () -> y.goBack(1));
        due("goBack(0)", y.goBack(0), 0);
    }

    private static void undo() {
        BiddenMoves x = new BiddenMoves();
        for (int value = 1; value <= 9; value++) {
            x.set(1, value);
            due("saved", x.count(10), Math.min(value, 6));
        }
        x.keep(0);
        type(x, "1:A");
        for (int left = 5; left >= 0; left--) {
            due("undo()", x.undo(), left);
            due("turns", x.setting(1), left + 3);
        }
        dueThrow("undo()", x, STATE, x::undo);
        due("the buffer stays", x.clearBuffer(), 3);
        due("goBack(0)", x.goBack(0), 0);
        due("turns", x.setting(1), 9);
        due("undo()", x.undo(), 0);
        due("turns", x.setting(1), 3);
    }

    private static void looks() {
        BiddenMoves x = board("0:7213;1:72;2:A;3:B;4:B;7:0");
        promise = "promise 17";
        int[][] want = {{0, 4, 7, 2, 1, 3, 1}, {0, 2, 7, 2, -1, -1, 1}, {1, 0, -1, -1, -1, -1, 2}};
        for (int position = 0; position < want.length; position++) {
            for (int what = 0; what <= 6; what++) {
                due("positionOf(" + position + ", " + what + ")", x.positionOf(position, what), want[position][what]);
            }
        }
        due("positionOf(7, 6)", x.positionOf(7, 6), 2);
        due("positionOf(4, 0)", x.positionOf(4, 0), 2);
        dueThrow("positionOf(8, 7)", x, INDEX, () -> x.positionOf(8, 7));
        dueThrow("positionOf(-1, 0)", x, INDEX, () -> x.positionOf(-1, 0));
        dueThrow("positionOf(0, 7)", x, ARGUMENT, () -> x.positionOf(0, 7));
        dueThrow("positionOf(0, -1)", x, ARGUMENT, () -> x.positionOf(0, -1));
        promise = "promise 18";
        dueState(x, "player0", 0, 4, 1, 0, 0, 1);
        dueState(x, "player1", 0, 4, 0, 0, 0, 2);
        dueThrow("playerOf(2, 6)", x, INDEX, () -> x.playerOf(2, 6));
        dueThrow("playerOf(-1, 0)", x, INDEX, () -> x.playerOf(-1, 0));
        dueThrow("playerOf(0, 6)", x, ARGUMENT, () -> x.playerOf(0, 6));
        dueThrow("playerOf(0, -1)", x, ARGUMENT, () -> x.playerOf(0, -1));
        // with 4 of 8 chips and the star the bid 4 cannot be topped; without it, it can be met
        BiddenMoves y = board(FORK);
        due("player 0 forces 0 and 1", y.playerOf(0, 5), 2);
        due("player 1 forces 2 alone", y.playerOf(1, 5), 1);
        y.set(1, 0);
        due("with no turn", y.playerOf(0, 5), 1);
        promise = "promise 19";
        dueState(x, "count", 0, 0, 0, -1, -1, 0, 8, 0, 0, 0, 7, 1);
        dueThrow("count(11)", x, ARGUMENT, () -> x.count(11));
        dueThrow("count(-1)", x, ARGUMENT, () -> x.count(-1));
        x.place(3, 2, 1);
        dueState(x, "count", 0, 3, 1, 1, -1, 1);
        promise = "promise 20";
        due("setting(0)", x.setting(0), 8);
        due("setting(1)", x.setting(1), 6);
        dueThrow("setting(2)", x, INDEX, () -> x.setting(2));
        dueThrow("setting(-1)", x, INDEX, () -> x.setting(-1));
    }

    private static void force() {
        BiddenMoves x = board(FORK);
        due("won, no turn", x.force(0, 1, 0, 1, 0), 1);
        due("lost", x.force(1, 1, 8, 1, 12), 0);
        due("no moves", x.force(0, 3, 8, 0, 12), 0);
        due("no turn", x.force(0, 0, 8, 0, 0), 0);
        due("meets all, with the star", x.force(0, 0, 4, 0, 1), 1);
        due("not with the star at the other one", x.force(0, 0, 4, 1, 1), 0);
        due("tops all", x.force(0, 0, 5, 1, 1), 1);
        due("too few", x.force(0, 0, 3, 0, 12), 0);
        due("player 1", x.force(1, 0, 4, 1, 1), 1);
        due("player 1", x.force(1, 0, 4, 0, 1), 0);
        due("force(0, 0, 8, 0, 12)", x.force(0, 0, 8, 0, 12), 1);
        dueThrow("force(2, 0, 9, 0, 0)", x, INDEX, () -> x.force(2, 0, 9, 0, 0));
        dueThrow("force(-1, 0, 0, 0, 0)", x, INDEX, () -> x.force(-1, 0, 0, 0, 0));
        dueThrow("force(0, 8, 0, 0, 0)", x, INDEX, () -> x.force(0, 8, 0, 0, 0));
        dueThrow("force(0, -1, 0, 0, 13)", x, INDEX, () -> x.force(0, -1, 0, 0, 13));
        dueThrow("force(0, 0, 9, 0, 0)", x, ARGUMENT, () -> x.force(0, 0, 9, 0, 0));
        dueThrow("force(0, 0, -1, 0, 0)", x, ARGUMENT, () -> x.force(0, 0, -1, 0, 0));
        dueThrow("force(0, 0, 0, 2, 0)", x, ARGUMENT, () -> x.force(0, 0, 0, 2, 0));
        dueThrow("force(0, 0, 0, -1, 0)", x, ARGUMENT, () -> x.force(0, 0, 0, -1, 0));
        dueThrow("force(0, 0, 0, 0, 13)", x, ARGUMENT, () -> x.force(0, 0, 0, 0, 13));
        dueThrow("force(0, 0, 0, 0, -1)", x, ARGUMENT, () -> x.force(0, 0, 0, 0, -1));
        // the first turn leads to 1 whoever buys it, so that there is no need to bid for it
        BiddenMoves y = board("0:1;1:23;2:A;3:B");
        due("two turns, one left", y.force(0, 0, 8, 0, 1), 0);
        due("two turns", y.force(0, 0, 8, 0, 2), 1);
        due("with the bid 0", y.force(0, 0, 5, 1, 2), 1);
        y.mark(1, 1);
        due("after a mark", y.force(0, 0, 0, 1, 1), 1);
        y.undo();
        due("after undo", y.force(0, 0, 0, 1, 1), 0);
    }

    private static void threshold() {
        BiddenMoves x = board(FORK + ";3:04");
        int[][] want = {{4, 0, -1}, {5, 0, -1}, {5, -1, 0}, {4, -1, 0}};
        for (int i = 0; i < 4; i++) {
            for (int position = 0; position < 3; position++) {
                for (int what = 0; what < 2; what++) {
                    due("threshold(" + i / 2 + ", " + position + ", " + i % 2 + ", " + what + ")",
                            x.threshold(i / 2, position, i % 2, what), want[i][position]);
                }
            }
        }
        x.set(1, 0);
        due("with no turn", x.threshold(0, 0, 0, 0), -1);
        due("with no turn", x.threshold(0, 0, 0, 1), -1);
        due("won, with no turn", x.threshold(0, 1, 0, 1), 0);
        x.set(1, 12);
        x.set(0, 0);
        due("without chips", x.threshold(0, 0, 0, 0), 0);
        due("without chips", x.threshold(0, 0, 1, 1), -1);
        x.set(0, 20);
        due("20 chips", x.threshold(1, 0, 0, 0), 11);
        due("20 chips", x.threshold(1, 0, 0, 1), 11);
        dueThrow("threshold(2, 0, 2, 0)", x, INDEX, () -> x.threshold(2, 0, 2, 0));
        dueThrow("threshold(0, 8, 0, 2)", x, INDEX, () -> x.threshold(0, 8, 0, 2));
        dueThrow("threshold(0, -1, 0, 0)", x, INDEX, () -> x.threshold(0, -1, 0, 0));
        dueThrow("threshold(0, 0, 2, 0)", x, ARGUMENT, () -> x.threshold(0, 0, 2, 0));
        dueThrow("threshold(0, 0, -1, 0)", x, ARGUMENT, () -> x.threshold(0, 0, -1, 0));
        dueThrow("threshold(0, 0, 0, 2)", x, ARGUMENT, () -> x.threshold(0, 0, 0, 2));
        dueThrow("threshold(0, 0, 0, -1)", x, ARGUMENT, () -> x.threshold(0, 0, 0, -1));
    }

    private static void advice() {
        BiddenMoves x = board(FORK);
        due("the star meets 4", x.advice(0), 4);
        due("player 1", x.advice(1), -1);
        x.place(0, 6, 1);
        due("tops 2", x.advice(0), 3);
        x.place(0, 6, 0);
        due("meets 2", x.advice(0), 2);
        x.bid(1, 0);
        due("a turn that is bought does not matter", x.advice(0), 3);
        x.set(1, 0);
        due("no turn", x.advice(0), -1);
        x.set(1, 1);
        due("one turn", x.advice(0), 3);
        x.place(1, 4, 0);
        due("over and won", x.advice(0), -1);
        x.place(5, 4, 0);
        due("over, no moves", x.advice(0), -1);
        dueThrow("advice(2)", x, INDEX, () -> x.advice(2));
        dueThrow("advice(-1)", x, INDEX, () -> x.advice(-1));
    }

    private static void refuted() {
        BiddenMoves x = board(FORK);
        due("refuted(0, 4)", x.refuted(0, 4), -1);
        due("refuted(0, 3)", x.refuted(0, 3), 4);
        due("refuted(0, 0)", x.refuted(0, 0), 1);
        due("the star decides", x.refuted(1, 0), 0);
        due("refuted(1, 4)", x.refuted(1, 4), 4);
        dueThrow("refuted(0, 5)", x, ARGUMENT, () -> x.refuted(0, 5));
        dueThrow("refuted(0, -1)", x, ARGUMENT, () -> x.refuted(0, -1));
        dueThrow("refuted(2, -1)", x, INDEX, () -> x.refuted(2, -1));
        dueThrow("refuted(-1, 0)", x, INDEX, () -> x.refuted(-1, 0));
        x.set(1, 0);
        due("no turn", x.refuted(0, 4), 0);
        x.place(1, 4, 0);
        due("won", x.refuted(0, 4), -1);
        due("lost", x.refuted(1, 4), 0);
        x.set(1, 6);
        due("won", x.refuted(0, 0), -1);
        x.place(5, 4, 0);
        due("no moves", x.refuted(0, 4), 0);
        dueThrow("over, above the budget", x, ARGUMENT, () -> x.refuted(0, 5));
        // too much is paid for the first turn of two
        BiddenMoves y = board("0:13;1:23;2:A;3:B");
        y.place(0, 7, 0);
        due("refuted(0, 1)", y.refuted(0, 1), -1);
        due("refuted(0, 6)", y.refuted(0, 6), 0);
    }

    private static void bestMove() {
        BiddenMoves x = board("0:6315;1:A;2:B;3:12;5:A;6:2");
        due("too little is left for 3", x.bestMove(0, 1), 1);
        due("enough is left for 3", x.bestMove(0, 0), 3);
        due("bestMove(0, 4)", x.bestMove(0, 4), 1);
        due("player 1 by 6", x.bestMove(1, 4), 6);
        x.place(0, 6, 1);
        due("the star stays with 1", x.bestMove(0, 2), 1);
        due("the star stays with 1", x.bestMove(0, 1), 3);
        x.set(1, 1);
        due("one turn, none behind it", x.bestMove(1, 0), -1);
        due("one turn, none behind it", x.bestMove(0, 0), 1);
        x.set(1, 0);
        due("no turn", x.bestMove(0, 0), -1);
        x.set(1, 6);
        dueThrow("bestMove(0, 7)", x, ARGUMENT, () -> x.bestMove(0, 7));
        dueThrow("bestMove(0, -1)", x, ARGUMENT, () -> x.bestMove(0, -1));
        dueThrow("bestMove(2, -1)", x, INDEX, () -> x.bestMove(2, -1));
        dueThrow("bestMove(-1, 0)", x, INDEX, () -> x.bestMove(-1, 0));
        x.mark(0, 1);
        due("over", x.bestMove(0, 0), -1);
    }

    private static void winIn() {
        BiddenMoves x = board(FORK);
        due("winIn(0)", x.winIn(0), 1);
        due("winIn(1)", x.winIn(1), -1);
        x.set(1, 0);
        due("setting 1 does not matter", x.winIn(0), 1);
        x.place(1, 0, 1);
        due("won", x.winIn(0), 0);
        due("lost", x.winIn(1), -1);
        x.place(4, 8, 0);
        due("no moves", x.winIn(0), -1);
        type(x, "0:1;1:2;2:3;3:4;4:5;5:67;6:A;7:B");
        x.load();
        x.place(0, 8, 0);
        due("six turns", x.winIn(0), 6);
        dueThrow("winIn(2)", x, INDEX, () -> x.winIn(2));
        dueThrow("winIn(-1)", x, INDEX, () -> x.winIn(-1));
        BiddenMoves y = board("0:13;1:2;2:A;3:04;4:B");
        y.set(0, 20);
        y.place(0, 20, 0);
        due("two turns", y.winIn(0), 2);
        y.place(0, 0, 0);
        due("without a chip", y.winIn(0), -1);
    }

    private static void forcedShare() {
        BiddenMoves x = new BiddenMoves();
        dueOf("forcedShare()", x.forcedShare(), 0.0);
        // 18 at the position 1; at 0 the budgets from 4 with the star, from 5 without it
        type(x, FORK);
        x.load();
        dueOf("forcedShare()", x.forcedShare(), 27.0 / 144);
        x.set(1, 0);
        dueOf("with no turn", x.forcedShare(), 18.0 / 144);
        x.set(0, 0);
        dueOf("without chips", x.forcedShare(), 2.0 / 16);
        x.set(1, 1);
        dueOf("without chips, a turn", x.forcedShare(), 3.0 / 16);
        for (int position = 0; position < 8; position++) x.mark(position, 1);
        x.set(0, 20);
        dueOf("all", x.forcedShare(), 1.0);
        x.reverse();
        dueOf("nothing", x.forcedShare(), 0.0);
    }

    private static long hashOf(long... values) {
        long hash = 3433;
        for (long v : values) hash = 31 * hash + v;
        return hash;
    }

    /** For an object with empty slots and an empty buffer. */
    private static long hashOfLooks(BiddenMoves x, long shareBits) {
        long[] values = new long[11 + 2 + 8 * 15 + 2 * 10 + 1 + 2 + 1];
        int n = 0;
        for (int what = 0; what <= 10; what++) values[n++] = x.count(what);
        for (int setting = 0; setting < 2; setting++) values[n++] = x.setting(setting);
        for (int position = 0; position < 8; position++) {
            for (int what = 0; what <= 6; what++) values[n++] = x.positionOf(position, what);
            for (int i = 0; i < 8; i++) values[n++] = x.threshold(i / 4, position, i / 2 % 2, i % 2);
        }
        for (int player = 0; player < 2; player++) {
            for (int what = 0; what <= 5; what++) values[n++] = x.playerOf(player, what);
            values[n++] = x.advice(player);
            values[n++] = x.refuted(player, 0);
            values[n++] = x.bestMove(player, 0);
            values[n++] = x.winIn(player);
        }
        values[n] = shareBits;
        return hashOf(values);
    }

    private static void digest() {
        BiddenMoves x = new BiddenMoves();
        long[] values = new long[11 + 2 + 8 * 15 + 2 * 10 + 1 + 2 + 1];
        int n = 0;
        for (long v : new long[] {0, 1, -1, -1, 0, 8, 0, 0, 0, 0, 0, 8, 6}) values[n++] = v;
        for (int position = 0; position < 8; position++) {
            for (long v : new long[] {0, 0, -1, -1, -1, -1, 0, -1, -1, -1, -1, -1, -1, -1, -1}) values[n++] = v;
        }
        for (long v : new long[] {4, 1, 0, 0, 0, 0, -1, 0, -1, -1}) values[n++] = v;
        for (long v : new long[] {4, 0, 0, 0, 0, 0, -1, 0, -1, -1}) values[n++] = v;
        for (long v : new long[] {0, 0, 0, 0}) values[n++] = v;
        due("values", n, values.length);
        due("digest()", x.digest(), hashOf(values));
        x.keep(1);
        x.append(33);
        x.append(126);
        values[n - 2] = 1;
        values[n - 1] = 2;
        values = Arrays.copyOf(values, n + 2);
        values[n] = 33;
        values[n + 1] = 126;
        due("digest()", x.digest(), hashOf(values));
        BiddenMoves y = board(FORK);
        y.bid(1, 0);
        due("digest() of a fork", y.digest(), hashOfLooks(y, 0x3fc8000000000000L));
        y.undo();
        for (int position = 0; position < 8; position++) y.mark(position, 1);
        due("digest() with the share 1", y.digest(), hashOfLooks(y, 0x3ff0000000000000L));
    }

    /** The document's class has just its own members, with the exceptions in the order of their clauses. */
    private static void face() {
        String due = "addMove(int,int) IndexOutOfBoundsException IllegalArgumentException IllegalStateException;"
                + "clearMoves(int) IndexOutOfBoundsException;"
                + "mark(int,int) IndexOutOfBoundsException IllegalArgumentException;reverse();"
                + "set(int,int) IndexOutOfBoundsException IllegalArgumentException;"
                + "place(int,int,int) IndexOutOfBoundsException IllegalArgumentException;bid(int,int);move(int);"
                + "append(int) IllegalArgumentException IllegalStateException;clearBuffer();firstError();"
                + "load() IllegalArgumentException;keep(int) IllegalArgumentException;"
                + "goBack(int) IllegalArgumentException IllegalStateException;undo() IllegalStateException;"
                + "positionOf(int,int) IndexOutOfBoundsException IllegalArgumentException;"
                + "playerOf(int,int) IndexOutOfBoundsException IllegalArgumentException;"
                + "count(int) IllegalArgumentException;setting(int) IndexOutOfBoundsException;"
                + "force(int,int,int,int,int) IndexOutOfBoundsException IllegalArgumentException;"
                + "threshold(int,int,int,int) IndexOutOfBoundsException IllegalArgumentException;"
                + "advice(int) IndexOutOfBoundsException;"
                + "refuted(int,int) IndexOutOfBoundsException IllegalArgumentException;"
                + "bestMove(int,int) IndexOutOfBoundsException IllegalArgumentException;"
                + "winIn(int) IndexOutOfBoundsException;forcedShare() double;digest() long";
        TreeSet<String> want = new TreeSet<>(Arrays.asList(due.split(";")));
        TreeSet<String> got = new TreeSet<>();
        TreeSet<String> publicNames = new TreeSet<>();
        for (Method m : BiddenMoves.class.getDeclaredMethods()) {
            if (Modifier.isPrivate(m.getModifiers())) continue;
            publicNames.add(m.getName());
            StringBuilder line = new StringBuilder(m.getName()).append('(');
            for (Class<?> p : m.getParameterTypes()) line.append(line.charAt(line.length() - 1) == '(' ? "" : ",").append(p);
            line.append(')');
            for (Class<?> e : m.getExceptionTypes()) line.append(' ').append(e.getSimpleName());
            if (m.getReturnType() != int.class) line.append(' ').append(m.getReturnType());
            if (!Modifier.isPublic(m.getModifiers())) line.append(" not public");
            got.add(line.toString());
        }
        due("the methods " + got, got.equals(want) ? 1 : 0, 1);
        for (Method m : BiddenMoves.class.getDeclaredMethods()) {
            if (Modifier.isPrivate(m.getModifiers())) due("private " + m, publicNames.contains(m.getName()) ? 1 : 0, 0);
        }
        for (Field f : BiddenMoves.class.getDeclaredFields()) {
            if (!Modifier.isPrivate(f.getModifiers())) due("field " + f, f.getName().equals("NONE") ? 1 : 0, 1);
        }
        Constructor<?>[] made = BiddenMoves.class.getDeclaredConstructors();
        due("the constructor", made.length == 1 && Modifier.isPublic(made[0].getModifiers()) ? 1 : 0, 1);
        due("final", Modifier.isFinal(BiddenMoves.class.getModifiers()) ? 1 : 0, 1);
    }

    private static void check(String name, Runnable test) {
        promise = name;
        test.run();
    }

    public static void main(String[] args) {
        check("the face", PromisesTest::face);
        check("promise 1", PromisesTest::newObject);
        check("promise 2", PromisesTest::addMove);
        check("promise 3", PromisesTest::clearMoves);
        check("promise 4", PromisesTest::mark);
        check("promise 5", PromisesTest::reverse);
        check("promise 6", PromisesTest::set);
        check("promise 7", PromisesTest::place);
        check("promise 8", PromisesTest::bid);
        check("promise 9", PromisesTest::move);
        check("promise 10", PromisesTest::append);
        check("promise 11", PromisesTest::clearBuffer);
        check("promise 12", PromisesTest::firstError);
        check("promise 13", PromisesTest::load);
        check("promises 14 and 15", PromisesTest::snapshots);
        check("promise 16", PromisesTest::undo);
        check("promises 17 to 20", PromisesTest::looks);
        check("promise 21", PromisesTest::force);
        check("promise 22", PromisesTest::threshold);
        check("promise 23", PromisesTest::advice);
        check("promise 24", PromisesTest::refuted);
        check("promise 25", PromisesTest::bestMove);
        check("promise 26", PromisesTest::winIn);
        check("promise 27", PromisesTest::forcedShare);
        check("promise 28", PromisesTest::digest);
        System.out.println(wrong == 0 ? "all " + asked + " answers are as due" : wrong + " answers are not as due");
        if (wrong != 0) System.exit(1);
    }
}
