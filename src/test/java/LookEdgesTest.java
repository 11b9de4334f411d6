/** The boundary cases that the document names for the promises 17 to 20: the looks. */
public final class LookEdgesTest extends Cases {
    private static void positionOf() {
        test(17, "position one below its range", () -> dueThrow(INDEX, x -> x.positionOf(-1, 0)));
        test(17, "position one above its range", () -> dueThrow(INDEX, x -> x.positionOf(8, 0)));
        test(17, "position far out of its range", () -> {
            dueThrow(INDEX, x -> x.positionOf(MIN, 0));
            dueThrow(INDEX, x -> x.positionOf(MAX, 0));
        });
        test(17, "position at both ends", () -> {
            BiddenMoves x = board("0:A;6:0;7:B");
            dueAll(row(1, 2, 1), x.positionOf(0, 0), x.positionOf(7, 0), x.positionOf(0, 6));
        });
        test(17, "what one below its range", () -> dueThrow(ARGUMENT, x -> x.positionOf(0, -1)));
        test(17, "what one above its range", () -> dueThrow(ARGUMENT, x -> x.positionOf(0, 7)));
        test(17, "what far out of its range", () -> {
            dueThrow(ARGUMENT, x -> x.positionOf(0, MIN));
            dueThrow(ARGUMENT, x -> x.positionOf(0, MAX));
        });
        test(17, "no such position goes ahead of what out of range", () -> {
            dueThrow(INDEX, x -> x.positionOf(8, 7));
            dueThrow(INDEX, x -> x.positionOf(-1, -1));
        });
        test(17, "no moves: NONE for each of the four", () -> duePosition("0:3", 3, 0, 0, -1, -1, -1, -1, 1));
        test(17, "1 move", () -> duePosition("3:0", 3, 0, 1, 0, -1, -1, -1, 0));
        test(17, "2 moves", () -> duePosition("3:70", 3, 0, 2, 7, 0, -1, -1, 0));
        test(17, "3 moves", () -> duePosition("3:704", 3, 0, 3, 7, 0, 4, -1, 0));
        test(17, "4 moves", () -> duePosition("3:7041", 3, 0, 4, 7, 0, 4, 1, 0));
        test(17, "the mark 1, without moves", () -> duePosition("3:A", 3, 1, 0, -1, -1, -1, -1, 0));
        test(17, "the mark 2, with moves", () -> {
            BiddenMoves x = board("3:04");
            x.mark(3, 2);
            duePosition(x, 3, 2, 2, 0, 4, -1, -1, 0);
        });
        test(17, "moves that were taken away are NONE", () -> {
            BiddenMoves x = board("3:7041");
            x.clearMoves(3);
            duePosition(x, 3, 0, 0, -1, -1, -1, -1, 0);
            x.addMove(3, 5);
            duePosition(x, 3, 0, 1, 5, -1, -1, -1, 0);
        });
        test(17, "no position has a move to it", () -> due(0, board("0:12;1:2").positionOf(0, 6)));
        test(17, "all seven others have a move to it", () -> {
            BiddenMoves x = board("0:7;1:27;2:147;3:1247;4:7;5:74;6:57");
            dueAll(row(7, 0, 2, 2, 3), x.positionOf(7, 6), x.positionOf(0, 6), x.positionOf(1, 6), x.positionOf(2, 6),
                    x.positionOf(4, 6));
        });
        test(17, "a position with a mark counts, if it has a move to it", () -> {
            BiddenMoves x = board("1:0;2:0");
            x.mark(1, 1);
            x.mark(0, 2);
            due(2, x.positionOf(0, 6));
        });
        test(17, "nothing is changed", () -> {
            for (int what = 0; what <= 6; what++) {
                int each = what;
                dueSame(x -> x.positionOf(0, each));
            }
        });
    }

    private static void duePosition(String text, int position, long... want) {
        duePosition(board(text), position, want);
    }

    private static void duePosition(BiddenMoves x, int position, long... want) {
        long[] got = new long[7];
        for (int what = 0; what <= 6; what++) got[what] = x.positionOf(position, what);
        dueAll(want, got);
    }

    private static void playerOf() {
        test(18, "player one below its range", () -> dueThrow(INDEX, x -> x.playerOf(-1, 0)));
        test(18, "player one above its range", () -> dueThrow(INDEX, x -> x.playerOf(2, 0)));
        test(18, "player far out of its range", () -> {
            dueThrow(INDEX, x -> x.playerOf(MIN, 0));
            dueThrow(INDEX, x -> x.playerOf(MAX, 0));
        });
        test(18, "what one below its range", () -> dueThrow(ARGUMENT, x -> x.playerOf(0, -1)));
        test(18, "what one above its range", () -> dueThrow(ARGUMENT, x -> x.playerOf(0, 6)));
        test(18, "what far out of its range", () -> {
            dueThrow(ARGUMENT, x -> x.playerOf(1, MIN));
            dueThrow(ARGUMENT, x -> x.playerOf(1, MAX));
        });
        test(18, "no such player goes ahead of what out of range", () -> {
            dueThrow(INDEX, x -> x.playerOf(2, 6));
            dueThrow(INDEX, x -> x.playerOf(-1, -1));
        });
        test(18, "0: the budget, none and all", () -> {
            BiddenMoves x = board("0:1", 20, 0, 0);
            dueAll(row(0, 20), x.playerOf(0, 0), x.playerOf(1, 0));
            x.place(0, 20, 0);
            dueAll(row(20, 0), x.playerOf(0, 0), x.playerOf(1, 0));
        });
        test(18, "1: the star, with each player", () -> {
            BiddenMoves x = board("0:1", 8, 4, 0);
            dueAll(row(1, 0), x.playerOf(0, 1), x.playerOf(1, 1));
            x.place(0, 4, 1);
            dueAll(row(0, 1), x.playerOf(0, 1), x.playerOf(1, 1));
        });
        test(18, "2: turns bought so far, by each, also by a tie and for 0 chips", () -> {
            BiddenMoves x = board("0:1;1:0", 8, 4, 0);
            dueAll(row(0, 0), x.playerOf(0, 2), x.playerOf(1, 2));
            x.bid(0, 0);
            dueAll(row(1, 0), x.playerOf(0, 2), x.playerOf(1, 2));
            x.move(1);
            x.bid(0, 1);
            dueAll(row(1, 1), x.playerOf(0, 2), x.playerOf(1, 2));
            x.bid(0, 1);
            dueAll(row(1, 1), x.playerOf(0, 2), x.playerOf(1, 2));
        });
        test(18, "3: chips paid so far, by each, also by a tie; what is got does not count", () -> {
            BiddenMoves x = board("0:1;1:0", 8, 4, 0);
            dueAll(row(0, 0), x.playerOf(0, 3), x.playerOf(1, 3));
            x.bid(4, 4);
            dueAll(row(4, 0), x.playerOf(0, 3), x.playerOf(1, 3));
            x.move(1);
            x.bid(0, 7);
            dueAll(row(4, 7), x.playerOf(0, 3), x.playerOf(1, 3));
            x.move(0);
            x.bid(7, 0);
            dueAll(row(11, 7), x.playerOf(0, 3), x.playerOf(1, 3));
        });
        test(18, "4: positions that are won, none and all", () -> {
            BiddenMoves x = board("0:1");
            dueAll(row(0, 0), x.playerOf(0, 4), x.playerOf(1, 4));
            for (int position = 0; position < 8; position++) x.mark(position, 2);
            dueAll(row(0, 8), x.playerOf(0, 4), x.playerOf(1, 4));
            x.reverse();
            dueAll(row(8, 0), x.playerOf(0, 4), x.playerOf(1, 4));
        });
        test(18, "5: none, with nothing to be won", () -> {
            BiddenMoves x = board("0:1;1:0");
            dueAll(row(0, 0), x.playerOf(0, 5), x.playerOf(1, 5));
        });
        test(18, "5: all positions, all of them won", () -> {
            BiddenMoves x = new BiddenMoves();
            for (int position = 0; position < 8; position++) x.mark(position, 2);
            dueAll(row(0, 8), x.playerOf(0, 5), x.playerOf(1, 5));
        });
        test(18, "5: hangs on the budgets", () -> {
            BiddenMoves x = board(FORK, 8, 4, 0);
            dueAll(row(2, 1), x.playerOf(0, 5), x.playerOf(1, 5));
            x.place(0, 3, 0);
            dueAll(row(1, 2), x.playerOf(0, 5), x.playerOf(1, 5));
        });
        test(18, "5: hangs on the star", () -> {
            BiddenMoves x = board(FORK, 8, 4, 1);
            dueAll(row(1, 2), x.playerOf(0, 5), x.playerOf(1, 5));
        });
        test(18, "5: hangs on setting 1: no turn, too few turns, just enough", () -> {
            BiddenMoves x = board("0:1;1:2;2:A");
            x.set(1, 0);
            due(1, x.playerOf(0, 5));
            x.set(1, 1);
            due(2, x.playerOf(0, 5));
            x.set(1, 2);
            due(3, x.playerOf(0, 5));
        });
        test(18, "5: the position of the game, and a turn that is bought, do not matter", () -> {
            BiddenMoves x = board(FORK + ";3:0", 8, 5, 1);
            int before = x.playerOf(0, 5);
            x.place(3, 6, 1);
            x.bid(1, 0);
            dueAll(row(3, 3, 5), before, x.playerOf(0, 5), x.playerOf(0, 0));
        });
        test(18, "nothing is changed", () -> {
            for (int what = 0; what <= 5; what++) {
                int each = what;
                dueSame(x -> x.playerOf(1, each));
            }
        });
    }

    private static void count() {
        test(19, "what one below its range", () -> dueThrow(ARGUMENT, x -> x.count(-1)));
        test(19, "what one above its range", () -> dueThrow(ARGUMENT, x -> x.count(11)));
        test(19, "what far out of its range", () -> {
            dueThrow(ARGUMENT, x -> x.count(MIN));
            dueThrow(ARGUMENT, x -> x.count(MAX));
        });
        test(19, "0: the position of the game, at both ends", () -> {
            BiddenMoves x = new BiddenMoves();
            due(0, x.count(0));
            x.place(7, 4, 0);
            due(7, x.count(0));
        });
        test(19, "1: over by a mark, without moves; not over otherwise", () -> {
            BiddenMoves x = board("0:1;2:A;3:B");
            due(0, x.count(1));
            for (int position = 1; position < 5; position++) {
                x.place(position, 4, 0);
                due(1, x.count(1));
            }
        });
        test(19, "2: the player for whom the position is won, NONE for neither", () -> {
            BiddenMoves x = board("0:1;2:A;3:B");
            due(-1, x.count(2));
            x.place(1, 4, 0);
            due(-1, x.count(2));
            x.place(2, 4, 0);
            due(0, x.count(2));
            x.place(3, 4, 0);
            due(1, x.count(2));
        });
        test(19, "3: who bought the turn, and NONE without one", () -> {
            BiddenMoves x = board("0:1;1:0");
            due(-1, x.count(3));
            x.bid(1, 0);
            due(0, x.count(3));
            x.move(1);
            due(-1, x.count(3));
            x.bid(0, 1);
            due(1, x.count(3));
        });
        test(19, "3: also if the game is over meanwhile, by a mark or without moves", () -> {
            BiddenMoves x = board("0:1;1:0");
            x.bid(0, 1);
            x.mark(0, 1);
            dueAll(row(1, 1), x.count(1), x.count(3));
            x.mark(0, 0);
            x.clearMoves(0);
            dueAll(row(1, 1), x.count(1), x.count(3));
        });
        test(19, "3: a refused bid buys nothing", () -> {
            BiddenMoves x = board("0:1;1:0");
            x.bid(5, 0);
            due(-1, x.count(3));
        });
        test(19, "4: the player with the star", () -> {
            BiddenMoves x = board("0:1");
            due(0, x.count(4));
            x.bid(0, 0);
            due(1, x.count(4));
        });
        test(19, "5: all chips, 0 and 20", () -> {
            BiddenMoves x = board("0:1", 0, 0, 0);
            due(0, x.count(5));
            x.set(0, 20);
            due(20, x.count(5));
        });
        test(19, "6: turns bought so far, of both players", () -> {
            BiddenMoves x = board("0:1;1:0");
            x.bid(1, 0);
            x.move(1);
            x.bid(0, 1);
            x.move(0);
            x.bid(0, 1);
            due(3, x.count(6));
        });
        test(19, "7: ties so far, also of 0; a refused one does not count", () -> {
            BiddenMoves x = board("0:1;1:0");
            x.bid(5, 5);
            due(0, x.count(7));
            x.bid(0, 0);
            due(1, x.count(7));
            x.bid(0, 0);
            due(1, x.count(7));
        });
        test(19, "8: bids and moves refused so far", () -> {
            BiddenMoves x = board("0:1;1:0");
            due(0, x.count(8));
            x.bid(9, 9);
            x.move(1);
            due(2, x.count(8));
            x.bid(1, 0);
            x.move(1);
            due(2, x.count(8));
        });
        test(19, "8: a call that throws is none that is refused", () -> {
            dueThrow(INDEX, x -> x.mark(8, 0));
            dueThrow(ARGUMENT, x -> x.place(0, 10, 0));
            dueThrow(STATE, x -> x.addMove(0, 1));
        });
        test(19, "9: moves of all positions, none and 32 of them, marks or not", () -> {
            BiddenMoves x = board("0:1234;1:2345;2:3456;3:4567;4:5670;5:6701;6:7012;7:0123");
            due(32, x.count(9));
            x.mark(3, 1);
            due(32, x.count(9));
            for (int position = 0; position < 8; position++) x.clearMoves(position);
            due(0, x.count(9));
        });
        test(19, "10: saved states, none, six, and a seventh that drops one", () -> {
            BiddenMoves x = new BiddenMoves();
            for (int saved = 0; saved < 9; saved++) {
                due(Math.min(saved, 6), x.count(10));
                x.reverse();
            }
        });
        test(19, "nothing is changed", () -> {
            for (int what = 0; what <= 10; what++) {
                int each = what;
                dueSame(x -> x.count(each));
            }
        });
    }

    private static void setting() {
        test(20, "setting one below its range", () -> dueThrow(INDEX, x -> x.setting(-1)));
        test(20, "setting one above its range", () -> dueThrow(INDEX, x -> x.setting(2)));
        test(20, "setting far out of its range", () -> {
            dueThrow(INDEX, x -> x.setting(MIN));
            dueThrow(INDEX, x -> x.setting(MAX));
        });
        test(20, "at first 8 chips and 6 turns", () -> {
            BiddenMoves x = new BiddenMoves();
            dueAll(row(8, 6), x.setting(0), x.setting(1));
        });
        test(20, "0 chips and 0 turns", () -> {
            BiddenMoves x = new BiddenMoves();
            x.set(0, 0);
            x.set(1, 0);
            dueAll(row(0, 0), x.setting(0), x.setting(1));
        });
        test(20, "20 chips and 12 turns", () -> {
            BiddenMoves x = new BiddenMoves();
            x.set(0, 20);
            x.set(1, 12);
            dueAll(row(20, 12), x.setting(0), x.setting(1));
        });
        test(20, "nothing is changed", () -> {
            dueSame(x -> x.setting(0));
            dueSame(x -> x.setting(1));
        });
    }

    public static void main(String[] args) {
        positionOf();
        playerOf();
        count();
        setting();
        end(17, 20);
    }
}
