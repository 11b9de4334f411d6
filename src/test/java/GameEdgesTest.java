import java.util.List;

/** The boundary cases that the document names for the promises 7 to 9: a game placed, bids, moves. */
public final class GameEdgesTest extends Cases {
    private static void place() {
        test(7, "position one below its range", () -> dueThrow(INDEX, x -> x.place(-1, 0, 0)));
        test(7, "position one above its range", () -> dueThrow(INDEX, x -> x.place(8, 0, 0)));
        test(7, "position far out of its range", () -> {
            dueThrow(INDEX, x -> x.place(MIN, 0, 0));
            dueThrow(INDEX, x -> x.place(MAX, 0, 0));
        });
        test(7, "position at both ends", () -> {
            BiddenMoves x = board("0:1;7:0");
            dueAll(row(0, 7, 0, 0), x.place(7, 4, 0), x.count(0), x.place(0, 4, 0), x.count(0));
        });
        test(7, "budget one below its range", () -> dueThrow(ARGUMENT, x -> x.place(0, -1, 0)));
        test(7, "budget one above all chips", () -> dueThrow(ARGUMENT, x -> x.place(0, 10, 0)));
        test(7, "budget far out of its range", () -> {
            dueThrow(ARGUMENT, x -> x.place(0, MIN, 0));
            dueThrow(ARGUMENT, x -> x.place(0, MAX, 0));
        });
        test(7, "the budget 0: the other one has all chips", () -> {
            BiddenMoves x = rich();
            dueAll(row(0, 0, 9, 9), x.place(0, 0, 0), x.playerOf(0, 0), x.playerOf(1, 0), x.count(5));
        });
        test(7, "the budget of all chips: the other one has none", () -> {
            BiddenMoves x = rich();
            dueAll(row(0, 9, 0, 9), x.place(0, 9, 0), x.playerOf(0, 0), x.playerOf(1, 0), x.count(5));
        });
        test(7, "the range of the budget follows setting 0: 20 chips", () -> {
            BiddenMoves x = board("0:1");
            x.set(0, 20);
            dueAll(row(0, 20, 0), x.place(0, 20, 0), x.playerOf(0, 0), x.playerOf(1, 0));
            dueThrow(ARGUMENT, () -> board("0:1", 20, 10, 0), y -> y.place(0, 21, 0));
        });
        test(7, "the range of the budget follows setting 0: no chips", () -> {
            BiddenMoves x = board("0:1");
            x.set(0, 0);
            dueAll(row(0, 0, 0), x.place(0, 0, 1), x.playerOf(0, 0), x.playerOf(1, 0));
            dueThrow(ARGUMENT, () -> board("0:1", 0, 0, 0), y -> y.place(0, 1, 0));
        });
        test(7, "star one below its range", () -> dueThrow(ARGUMENT, x -> x.place(0, 0, -1)));
        test(7, "star one above its range", () -> dueThrow(ARGUMENT, x -> x.place(0, 0, 2)));
        test(7, "star far out of its range", () -> {
            dueThrow(ARGUMENT, x -> x.place(0, 0, MIN));
            dueThrow(ARGUMENT, x -> x.place(0, 0, MAX));
        });
        test(7, "the star at both ends", () -> {
            BiddenMoves x = rich();
            x.place(0, 4, 1);
            dueAll(row(1, 0, 1), x.count(4), x.playerOf(0, 1), x.playerOf(1, 1));
            x.place(0, 4, 0);
            dueAll(row(0, 1, 0), x.count(4), x.playerOf(0, 1), x.playerOf(1, 1));
        });
        test(7, "no such position goes ahead of another argument out of range", () -> {
            dueThrow(INDEX, x -> x.place(8, 10, 0));
            dueThrow(INDEX, x -> x.place(-1, 0, 2));
            dueThrow(INDEX, x -> x.place(8, -1, -1));
        });
        test(7, "over already, by the mark 1", () -> {
            BiddenMoves x = board("0:1;3:A;5:B");
            dueAll(row(1, 1, 0), x.place(3, 4, 0), x.count(1), x.count(2));
        });
        test(7, "over already, by the mark 2", () -> {
            BiddenMoves x = board("0:1;3:A;5:B");
            dueAll(row(1, 1, 1), x.place(5, 4, 0), x.count(1), x.count(2));
        });
        test(7, "over already, without moves", () -> {
            BiddenMoves x = board("0:1;3:A;5:B");
            dueAll(row(1, 1, -1), x.place(6, 4, 0), x.count(1), x.count(2));
        });
        test(7, "over already, with a mark and moves", () -> {
            BiddenMoves x = board("0:1");
            x.mark(0, 2);
            dueAll(row(1, 1, 1), x.place(0, 4, 0), x.count(1), x.count(2));
        });
        test(7, "not over, with one move and no mark", () -> {
            BiddenMoves x = board("6:1");
            dueAll(row(0, 0, -1), x.place(6, 4, 0), x.count(1), x.count(2));
        });
        test(7, "what is counted so far stays", () -> {
            BiddenMoves x = rich();
            x.place(1, 0, 1);
            dueAll(row(2, 1, 1, 1, 1, 2, 2), x.count(6), x.count(7), x.count(8), x.playerOf(0, 2), x.playerOf(1, 2),
                    x.playerOf(0, 3), x.playerOf(1, 3));
        });
        test(7, "a turn that is bought is forgotten", () -> {
            BiddenMoves x = board("0:1");
            x.bid(1, 0);
            dueAll(row(0, 0, -1, 2), x.count(3), x.place(0, 4, 0), x.count(3), x.move(1));
        });
        test(7, "a turn that is bought is forgotten, also by a place where the game is over", () -> {
            BiddenMoves x = board("0:1");
            x.bid(0, 1);
            dueAll(row(1, -1), x.place(1, 4, 0), x.count(3));
        });
        test(7, "the board and setting 1 stay", () -> {
            BiddenMoves x = rich();
            x.place(7, 9, 0);
            dueAll(row(5, 9, 9, 1, 4), x.setting(1), x.setting(0), x.count(9), x.positionOf(1, 0), x.positionOf(0, 5));
        });
        test(7, "nothing else is changed", () -> {
            String sides = " player0.0 player1.0 player0.1 player1.1 count3 count4";
            dueChanges("count0 count1" + sides, Cases::rich, x -> x.place(7, 2, 1));
            dueChanges("count0 count1 count2" + sides, Cases::strange, x -> x.place(0, 0, 0));
            dueChanges("count3", Cases::strange, x -> x.place(3, 6, 1));
        });
        test(7, "undoable", () -> dueUndone(x -> x.place(5, 3, 1)));
        test(7, "undoable, also if it changes nothing", () -> {
            BiddenMoves x = board("0:1");
            dueAll(row(1, 0, 2, 0, 3), x.count(10), x.place(0, 4, 0), x.count(10), x.place(0, 4, 0), x.count(10));
        });
    }

    /** A refused call counts itself and saves a state, and changes nothing else. */
    private static void dueRefused(int reason, Maker maker, Call call) {
        BiddenMoves x = maker.make();
        BiddenMoves same = maker.make();
        int refused = x.count(8);
        int saved = x.count(10);
        due(reason, call.of(x));
        due(refused + 1, x.count(8));
        due(Math.min(saved + 1, 6), x.count(10));
        due(x.count(10) - 1, x.undo());
        dueLooks(looks(same), looks(x));
        call.of(x);
        List<Long> but = looks(x);
        but.set(8, (long) refused);
        dueLooks(looks(same), but);
    }

    private static BiddenMoves overByMark() {
        BiddenMoves x = board("0:1;1:0", 8, 4, 1);
        x.mark(0, 2);
        return x;
    }

    private static BiddenMoves overWithoutMoves() {
        return board("1:0", 8, 4, 1);
    }

    private static BiddenMoves overMeanwhile() {
        BiddenMoves x = board("0:1;1:0", 8, 4, 1);
        x.bid(3, 1);
        x.mark(0, 1);
        return x;
    }

    private static BiddenMoves boughtBy0() {
        BiddenMoves x = board("0:12;1:0", 8, 4, 1);
        x.bid(3, 1);
        return x;
    }

    /** The budgets are 5 and 3. */
    private static BiddenMoves open() {
        return board("0:12;1:0", 8, 5, 1);
    }

    private static void bidsRefused() {
        test(8, "reason 1: the game is over by a mark",
                () -> dueRefused(1, GameEdgesTest::overByMark, x -> x.bid(1, 0)));
        test(8, "reason 1: the game is over without moves",
                () -> dueRefused(1, GameEdgesTest::overWithoutMoves, x -> x.bid(1, 0)));
        test(8, "reason 1 goes ahead of 2", () -> dueRefused(1, GameEdgesTest::overMeanwhile, x -> x.bid(1, 0)));
        test(8, "reason 1 goes ahead of 3", () -> dueRefused(1, GameEdgesTest::overByMark, x -> x.bid(-1, 0)));
        test(8, "reason 1 goes ahead of 4", () -> dueRefused(1, GameEdgesTest::overByMark, x -> x.bid(5, 5)));
        test(8, "reason 2: the turn is bought already",
                () -> dueRefused(2, GameEdgesTest::boughtBy0, x -> x.bid(1, 0)));
        test(8, "reason 2: the turn is bought already, by the player 1", () -> {
            dueRefused(2, () -> {
                BiddenMoves x = open();
                x.bid(0, 3);
                return x;
            }, x -> x.bid(0, 0));
        });
        test(8, "reason 2 goes ahead of 3", () -> {
            dueRefused(2, GameEdgesTest::boughtBy0, x -> x.bid(-1, 0));
            dueRefused(2, GameEdgesTest::boughtBy0, x -> x.bid(0, -1));
        });
        test(8, "reason 2 goes ahead of 4", () -> dueRefused(2, GameEdgesTest::boughtBy0, x -> x.bid(9, 9)));
        test(8, "reason 3: the bid of the player 0 is one below 0",
                () -> dueRefused(3, GameEdgesTest::open, x -> x.bid(-1, 0)));
        test(8, "reason 3: the bid of the player 1 is one below 0",
                () -> dueRefused(3, GameEdgesTest::open, x -> x.bid(0, -1)));
        test(8, "reason 3: both bids are below 0, also a tie", () -> {
            dueRefused(3, GameEdgesTest::open, x -> x.bid(-1, -1));
            dueRefused(3, GameEdgesTest::open, x -> x.bid(MIN, MIN));
        });
        test(8, "reason 3 goes ahead of 4, whoever bids what", () -> {
            dueRefused(3, GameEdgesTest::open, x -> x.bid(6, -1));
            dueRefused(3, GameEdgesTest::open, x -> x.bid(-1, 4));
            dueRefused(3, GameEdgesTest::open, x -> x.bid(MAX, MIN));
            dueRefused(3, GameEdgesTest::open, x -> x.bid(MIN, MAX));
        });
        test(8, "reason 4: the bid of the player 0 is one above the budget",
                () -> dueRefused(4, GameEdgesTest::open, x -> x.bid(6, 0)));
        test(8, "reason 4: the bid of the player 1 is one above the budget",
                () -> dueRefused(4, GameEdgesTest::open, x -> x.bid(0, 4)));
        test(8, "reason 4: the own budget counts, not the other one's", () -> {
            dueRefused(4, GameEdgesTest::open, x -> x.bid(5, 4));
            dueRefused(4, () -> board("0:1", 8, 3, 0), x -> x.bid(4, 5));
        });
        test(8, "reason 4: far above the budget", () -> {
            dueRefused(4, GameEdgesTest::open, x -> x.bid(MAX, 0));
            dueRefused(4, GameEdgesTest::open, x -> x.bid(0, MAX));
            dueRefused(4, GameEdgesTest::open, x -> x.bid(MAX, MAX));
        });
        test(8, "reason 4: a bid of 1 without chips", () -> {
            dueRefused(4, () -> board("0:1", 0, 0, 0), x -> x.bid(1, 0));
            dueRefused(4, () -> board("0:1", 0, 0, 0), x -> x.bid(0, 1));
        });
    }

    private static BiddenMoves richAt3() {
        BiddenMoves x = rich();
        x.move(3);
        return x;
    }

    private static BiddenMoves strangeAt6() {
        BiddenMoves x = strange();
        x.place(6, 6, 1);
        return x;
    }

    private static void bidsTaken() {
        test(8, "a bid of the whole budget, of the player 0", () -> {
            BiddenMoves x = open();
            dueAll(row(10, 0, 8, 0, 5, 1), x.bid(5, 3), x.playerOf(0, 0), x.playerOf(1, 0), x.count(3),
                    x.playerOf(0, 3), x.playerOf(0, 2));
        });
        test(8, "a bid of the whole budget, of the player 1", () -> {
            BiddenMoves x = open();
            dueAll(row(11, 8, 0, 1, 3, 1), x.bid(2, 3), x.playerOf(0, 0), x.playerOf(1, 0), x.count(3),
                    x.playerOf(1, 3), x.playerOf(1, 2));
        });
        test(8, "a bid of 0 loses against 1", () -> {
            dueAll(row(10), open().bid(1, 0));
            dueAll(row(11), open().bid(0, 1));
        });
        test(8, "one chip more buys the turn, and the own bid is paid", () -> {
            BiddenMoves x = open();
            dueAll(row(10, 2, 6), x.bid(3, 2), x.playerOf(0, 0), x.playerOf(1, 0));
            BiddenMoves y = open();
            dueAll(row(11, 8, 0), y.bid(2, 3), y.playerOf(0, 0), y.playerOf(1, 0));
        });
        test(8, "who bids more leaves the star where it is", () -> {
            BiddenMoves x = open();
            dueAll(row(10, 1, 0), x.bid(3, 2), x.count(4), x.count(7));
            BiddenMoves y = board("0:1", 8, 5, 0);
            dueAll(row(11, 0, 0), y.bid(2, 3), y.count(4), y.count(7));
            BiddenMoves z = open();
            dueAll(row(11, 1, 0), z.bid(2, 3), z.count(4), z.count(7));
        });
        test(8, "a tie, the star with the player 0: who has it buys, pays, and gives it away", () -> {
            BiddenMoves x = board("0:1", 8, 5, 0);
            dueAll(row(10, 3, 5, 1, 1, 0), x.bid(2, 2), x.playerOf(0, 0), x.playerOf(1, 0), x.count(4), x.count(7),
                    x.count(3));
            dueAll(row(1, 0, 2, 0), x.playerOf(0, 2), x.playerOf(1, 2), x.playerOf(0, 3), x.playerOf(1, 3));
        });
        test(8, "a tie, the star with the player 1", () -> {
            BiddenMoves x = open();
            dueAll(row(11, 7, 1, 0, 1, 1), x.bid(2, 2), x.playerOf(0, 0), x.playerOf(1, 0), x.count(4), x.count(7),
                    x.count(3));
            dueAll(row(0, 1, 0, 2), x.playerOf(0, 2), x.playerOf(1, 2), x.playerOf(0, 3), x.playerOf(1, 3));
        });
        test(8, "a tie of 0: nothing is paid, but the star goes over", () -> {
            BiddenMoves x = open();
            dueAll(row(11, 5, 3, 0, 1, 0), x.bid(0, 0), x.playerOf(0, 0), x.playerOf(1, 0), x.count(4), x.count(7),
                    x.playerOf(1, 3));
        });
        test(8, "a tie of the whole budgets", () -> {
            BiddenMoves x = board("0:1", 8, 4, 1);
            dueAll(row(11, 8, 0, 0), x.bid(4, 4), x.playerOf(0, 0), x.playerOf(1, 0), x.count(4));
        });
        test(8, "a tie without any chips", () -> {
            BiddenMoves x = board("0:1", 0, 0, 0);
            dueAll(row(10, 0, 0, 1, 1), x.bid(0, 0), x.playerOf(0, 0), x.playerOf(1, 0), x.count(4), x.count(7));
        });
        test(8, "all of 20 chips", () -> {
            BiddenMoves x = board("0:1", 20, 20, 1);
            dueAll(row(10, 0, 20, 20), x.bid(20, 0), x.playerOf(0, 0), x.playerOf(1, 0), x.playerOf(0, 3));
        });
        test(8, "chips stay the same over many turns", () -> {
            BiddenMoves x = board("0:1;1:0", 19, 9, 0);
            for (int turn = 0; turn < 30; turn++) {
                x.bid(x.playerOf(0, 0) * (turn % 3) / 2, x.playerOf(1, 0) * (turn % 5) / 4);
                due(19, x.playerOf(0, 0) + x.playerOf(1, 0));
                due(19, x.count(5));
                x.move(1 - turn % 2);
            }
            due(x.count(6), x.playerOf(0, 2) + x.playerOf(1, 2));
        });
        test(8, "the position of the game stays until the move", () -> {
            BiddenMoves x = open();
            dueAll(row(10, 0, 0), x.bid(3, 2), x.count(0), x.count(1));
        });
        test(8, "what is counted adds up", () -> {
            BiddenMoves x = board("0:1;1:0", 8, 5, 0);
            x.bid(2, 2);
            x.move(1);
            x.bid(3, 4);
            x.move(0);
            x.bid(1, 0);
            dueAll(row(3, 1, 2, 1, 3, 4), x.count(6), x.count(7), x.playerOf(0, 2), x.playerOf(1, 2), x.playerOf(0, 3),
                    x.playerOf(1, 3));
        });
        test(8, "nothing else is changed", () -> {
            dueChanges("count3 count6 player0.0 player1.0 player1.2 player1.3", GameEdgesTest::richAt3,
                    x -> x.bid(2, 3));
            dueChanges("count3 count6 player0.0 player1.0 player0.2 player0.3", GameEdgesTest::richAt3,
                    x -> x.bid(6, 0));
            dueChanges("count3 count4 count6 count7 player0.0 player1.0 player0.1 player1.1 player1.2 player1.3",
                    GameEdgesTest::strangeAt6, x -> x.bid(3, 3));
            dueChanges("count8", GameEdgesTest::strangeAt6, x -> x.bid(-1, -1));
            dueChanges("count8", Cases::rich, x -> x.bid(0, 0));
            dueChanges("count8", Cases::strange, x -> x.bid(0, 0));
        });
        test(8, "undoable", () -> {
            BiddenMoves x = board("0:1", 8, 5, 0);
            List<Long> before = looks(x);
            dueAll(row(3, 10, 4, 3), x.count(10), x.bid(2, 2), x.count(10), x.undo());
            dueLooks(before, looks(x));
        });
        test(8, "undoable, also if it is refused: what is counted goes back", () -> {
            dueUndone(x -> x.bid(0, 0));
            BiddenMoves x = open();
            dueAll(row(3, 1, 3, 0), x.bid(-1, 0), x.count(8), x.undo(), x.count(8));
        });
    }

    private static void movesRefused() {
        test(9, "reason 1: the game is over by a mark",
                () -> dueRefused(1, GameEdgesTest::overMeanwhile, x -> x.move(1)));
        test(9, "reason 1: the game is over without moves", () -> dueRefused(1, () -> {
            BiddenMoves x = boughtBy0();
            x.clearMoves(0);
            return x;
        }, x -> x.move(1)));
        test(9, "reason 1 goes ahead of 2", () -> {
            dueRefused(1, GameEdgesTest::overByMark, x -> x.move(1));
            dueRefused(1, GameEdgesTest::overWithoutMoves, x -> x.move(1));
        });
        test(9, "reason 1 goes ahead of 3", () -> dueRefused(1, GameEdgesTest::overMeanwhile, x -> x.move(5)));
        test(9, "reason 2: no turn is bought", () -> dueRefused(2, GameEdgesTest::open, x -> x.move(1)));
        test(9, "reason 2: the turn that was bought is used already", () -> dueRefused(2, () -> {
            BiddenMoves x = boughtBy0();
            x.move(1);
            return x;
        }, x -> x.move(0)));
        test(9, "reason 2 goes ahead of 3", () -> {
            dueRefused(2, GameEdgesTest::open, x -> x.move(5));
            dueRefused(2, GameEdgesTest::open, x -> x.move(-1));
        });
        test(9, "reason 3: a position to which no move leads",
                () -> dueRefused(3, GameEdgesTest::boughtBy0, x -> x.move(3)));
        test(9, "reason 3: the position of the game itself",
                () -> dueRefused(3, GameEdgesTest::boughtBy0, x -> x.move(0)));
        test(9, "reason 3: no position, one below and one above", () -> {
            dueRefused(3, GameEdgesTest::boughtBy0, x -> x.move(-1));
            dueRefused(3, GameEdgesTest::boughtBy0, x -> x.move(8));
        });
        test(9, "reason 3: no position, far out", () -> {
            dueRefused(3, GameEdgesTest::boughtBy0, x -> x.move(MIN));
            dueRefused(3, GameEdgesTest::boughtBy0, x -> x.move(MAX));
        });
        test(9, "reason 3: a move of another position", () -> {
            dueRefused(3, () -> {
                BiddenMoves x = board("0:1;1:2");
                x.bid(1, 0);
                return x;
            }, x -> x.move(2));
        });
        test(9, "reason 3: a move that was taken away", () -> {
            dueRefused(3, () -> {
                BiddenMoves x = boughtBy0();
                x.clearMoves(0);
                x.addMove(0, 2);
                return x;
            }, x -> x.move(1));
        });
    }

    private static void movesMade() {
        test(9, "10, if the game goes on", () -> {
            BiddenMoves x = boughtBy0();
            dueAll(row(10, 1, 0, -1), x.move(1), x.count(0), x.count(1), x.count(2));
        });
        test(9, "11, if the game is over by the mark 1", () -> {
            BiddenMoves x = board("0:3;3:A");
            x.bid(0, 1);
            dueAll(row(11, 3, 1, 0), x.move(3), x.count(0), x.count(1), x.count(2));
        });
        test(9, "11, if the game is over by the mark 2", () -> {
            BiddenMoves x = board("0:3;3:B");
            x.bid(1, 0);
            dueAll(row(11, 3, 1, 1), x.move(3), x.count(0), x.count(1), x.count(2));
        });
        test(9, "11, if the game is over since there are no moves", () -> {
            BiddenMoves x = boughtBy0();
            dueAll(row(11, 2, 1, -1), x.move(2), x.count(0), x.count(1), x.count(2));
        });
        test(9, "11, by a mark of a position with moves", () -> {
            BiddenMoves x = boughtBy0();
            x.mark(1, 2);
            dueAll(row(11, 1), x.move(1), x.count(2));
        });
        test(9, "the first and the fourth of 4 moves, to the ends of the positions", () -> {
            BiddenMoves x = board("3:7120;7:0");
            x.place(3, 4, 0);
            x.bid(1, 0);
            dueAll(row(10, 7), x.move(7), x.count(0));
            x.undo();
            dueAll(row(11, 0), x.move(0), x.count(0));
        });
        test(9, "the player 1 moves who bought the turn", () -> {
            BiddenMoves x = board("0:12;1:0");
            dueAll(row(11, 10, -1, 1), x.bid(0, 1), x.move(1), x.count(3), x.count(0));
        });
        test(9, "no turn is bought then, budgets, star and counts stay", () -> {
            BiddenMoves x = boughtBy0();
            dueAll(row(0, 10, -1), x.count(3), x.move(1), x.count(3));
            dueAll(row(1, 7, 1, 1, 0, 0, 3), x.playerOf(0, 0), x.playerOf(1, 0), x.count(4), x.count(6), x.count(7),
                    x.count(8), x.playerOf(0, 3));
        });
        test(9, "a refused move leaves the turn bought, and may be followed by a good one", () -> {
            BiddenMoves x = boughtBy0();
            dueAll(row(3, 0, 10), x.move(5), x.count(3), x.move(1));
        });
        test(9, "nothing else is changed", () -> {
            dueChanges("count0 count3", Cases::rich, x -> x.move(3));
            dueChanges("count0 count1 count2 count3", Cases::strange, x -> x.move(0));
            dueChanges("count8", Cases::rich, x -> x.move(5));
            dueChanges("count8", Cases::strange, x -> x.move(3));
            dueChanges("count8", GameEdgesTest::strangeAt6, x -> x.move(3));
        });
        test(9, "undoable", () -> dueUndone(x -> x.move(1)));
        test(9, "undoable, also if it is refused: what is counted goes back", () -> {
            dueUndone(x -> x.move(7));
            BiddenMoves x = open();
            dueAll(row(2, 1, 3, 0), x.move(1), x.count(8), x.undo(), x.count(8));
        });
    }

    public static void main(String[] args) {
        place();
        bidsRefused();
        bidsTaken();
        movesRefused();
        movesMade();
        end(7, 9);
    }
}
