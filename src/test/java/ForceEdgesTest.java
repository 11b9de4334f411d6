/** The boundary cases that the document names for the promises 21 to 28: what can be forced, and the digest. */
public final class ForceEdgesTest extends Cases {
    /** Each turn leads one position on, whoever buys it. */
    private static final String PATH = "0:1;1:2;2:3;3:4;4:5;5:6;6:7;7:A";
    /** The first turn leads to the fork at 1, whoever buys it; who does not buy it may get chips. */
    private static final String STEP_AND_FORK = "0:1;1:23;2:A;3:B";
    /** The player 0 must buy two turns one behind the other. */
    private static final String TWO_FORKS = "0:13;1:24;2:A;3:B;4:B";
    /** With the budget 0 round and round, for the chips that the other one pays; 2 turns each time. */
    private static final String ROUND = "0:1;1:20;2:A";

    private static BiddenMoves fork(int chips, int budget, int star) {
        return board(FORK, chips, budget, star);
    }

    private static void forceRanges() {
        test(21, "player one below its range", () -> dueThrow(INDEX, x -> x.force(-1, 0, 0, 0, 0)));
        test(21, "player one above its range", () -> dueThrow(INDEX, x -> x.force(2, 0, 0, 0, 0)));
        test(21, "position one below its range", () -> dueThrow(INDEX, x -> x.force(0, -1, 0, 0, 0)));
        test(21, "position one above its range", () -> dueThrow(INDEX, x -> x.force(0, 8, 0, 0, 0)));
        test(21, "player and position far out of their ranges", () -> {
            dueThrow(INDEX, x -> x.force(MIN, 0, 0, 0, 0));
            dueThrow(INDEX, x -> x.force(MAX, 0, 0, 0, 0));
            dueThrow(INDEX, x -> x.force(0, MIN, 0, 0, 0));
            dueThrow(INDEX, x -> x.force(0, MAX, 0, 0, 0));
        });
        test(21, "player and position at both ends", () -> {
            BiddenMoves x = board("0:A;7:B");
            dueAll(row(1, 0, 0, 1), x.force(0, 0, 0, 0, 0), x.force(0, 7, 0, 0, 0), x.force(1, 0, 0, 0, 0),
                    x.force(1, 7, 0, 0, 0));
        });
        test(21, "budget one below its range", () -> dueThrow(ARGUMENT, x -> x.force(0, 0, -1, 0, 0)));
        test(21, "budget one above all chips", () -> {
            dueThrow(ARGUMENT, x -> x.force(0, 0, 10, 0, 0));
            dueThrow(ARGUMENT, () -> fork(0, 0, 0), x -> x.force(0, 0, 1, 0, 0));
            dueThrow(ARGUMENT, () -> fork(20, 0, 0), x -> x.force(1, 0, 21, 0, 0));
        });
        test(21, "budget far out of its range", () -> {
            dueThrow(ARGUMENT, x -> x.force(0, 0, MIN, 0, 0));
            dueThrow(ARGUMENT, x -> x.force(0, 0, MAX, 0, 0));
        });
        test(21, "budget at both ends, with 0, 8 and 20 chips", () -> {
            dueAll(row(0, 1), fork(8, 4, 0).force(0, 0, 0, 0, 1), fork(8, 4, 0).force(0, 0, 8, 0, 1));
            dueAll(row(0, 1), fork(20, 4, 0).force(0, 0, 0, 0, 1), fork(20, 4, 0).force(0, 0, 20, 0, 1));
            due(1, fork(0, 0, 1).force(0, 0, 0, 0, 1));
        });
        test(21, "star one below its range", () -> dueThrow(ARGUMENT, x -> x.force(0, 0, 0, -1, 0)));
        test(21, "star one above its range", () -> dueThrow(ARGUMENT, x -> x.force(0, 0, 0, 2, 0)));
        test(21, "turns one below their range", () -> dueThrow(ARGUMENT, x -> x.force(0, 0, 0, 0, -1)));
        test(21, "turns one above their range", () -> dueThrow(ARGUMENT, x -> x.force(0, 0, 0, 0, 13)));
        test(21, "star and turns far out of their ranges", () -> {
            dueThrow(ARGUMENT, x -> x.force(0, 0, 0, MIN, 0));
            dueThrow(ARGUMENT, x -> x.force(0, 0, 0, MAX, 0));
            dueThrow(ARGUMENT, x -> x.force(0, 0, 0, 0, MIN));
            dueThrow(ARGUMENT, x -> x.force(0, 0, 0, 0, MAX));
        });
        test(21, "no such position or player goes ahead of another argument out of range", () -> {
            dueThrow(INDEX, x -> x.force(2, 0, 10, 2, 13));
            dueThrow(INDEX, x -> x.force(0, 8, -1, -1, -1));
        });
        test(21, "arguments out of range, though the position is won", () -> {
            dueThrow(ARGUMENT, x -> x.force(0, 1, 10, 0, 0));
            dueThrow(ARGUMENT, x -> x.force(0, 1, 0, 2, 0));
            dueThrow(ARGUMENT, x -> x.force(0, 1, 0, 0, 13));
        });
        test(21, "nothing is changed", () -> dueSame(x -> x.force(0, 0, 5, 1, 12)));
    }

    private static void forceWithoutATurn() {
        test(21, "won for this player: with any number of turns, also 0, without a chip", () -> {
            BiddenMoves x = fork(8, 4, 0);
            dueAll(row(1, 1, 1), x.force(0, 1, 0, 1, 0), x.force(0, 1, 0, 1, 1), x.force(0, 1, 0, 1, 12));
            dueAll(row(1, 1, 1), x.force(1, 2, 0, 0, 0), x.force(1, 2, 0, 0, 1), x.force(1, 2, 0, 0, 12));
        });
        test(21, "won for this player, with moves to lost positions", () -> {
            BiddenMoves x = board("0:1;1:B");
            x.mark(0, 1);
            dueAll(row(1, 1), x.force(0, 0, 0, 1, 0), x.force(0, 0, 0, 1, 12));
        });
        test(21, "won for the other one: not, with all chips and turns", () -> {
            BiddenMoves x = fork(8, 4, 0);
            dueAll(row(0, 0), x.force(0, 2, 8, 0, 12), x.force(1, 1, 8, 1, 12));
        });
        test(21, "won for the other one, with moves to won positions", () -> {
            BiddenMoves x = board("0:1;1:A");
            x.mark(0, 2);
            due(0, x.force(0, 0, 8, 0, 12));
        });
        test(21, "no moves: not, with all chips and turns", () -> {
            BiddenMoves x = fork(8, 4, 0);
            dueAll(row(0, 0), x.force(0, 5, 8, 0, 12), x.force(1, 5, 8, 1, 12));
        });
        test(21, "no turn is left: not, with all chips", () -> {
            BiddenMoves x = fork(8, 4, 0);
            dueAll(row(0, 1), x.force(0, 0, 8, 0, 0), x.force(0, 0, 8, 0, 1));
        });
        test(21, "an empty board", () -> due(0, new BiddenMoves().force(0, 0, 8, 0, 12)));
    }

    private static void forceByBids() {
        test(21, "as many chips as the other one, with the star: a tie is won", () -> {
            dueAll(row(1, 0), fork(8, 4, 0).force(0, 0, 4, 0, 1), fork(8, 4, 0).force(0, 0, 3, 0, 1));
            dueAll(row(1, 0), fork(8, 4, 0).force(1, 0, 4, 1, 1), fork(8, 4, 0).force(1, 0, 3, 1, 1));
        });
        test(21, "without the star one chip more than the other one is needed", () -> {
            dueAll(row(1, 0), fork(8, 4, 0).force(0, 0, 5, 1, 1), fork(8, 4, 0).force(0, 0, 4, 1, 1));
            dueAll(row(1, 0), fork(8, 4, 0).force(1, 0, 5, 0, 1), fork(8, 4, 0).force(1, 0, 4, 0, 1));
        });
        test(21, "an odd number of chips", () -> {
            dueAll(row(1, 0), fork(9, 4, 0).force(0, 0, 5, 0, 1), fork(9, 4, 0).force(0, 0, 4, 0, 1));
            dueAll(row(1, 0), fork(9, 4, 0).force(0, 0, 5, 1, 1), fork(9, 4, 0).force(0, 0, 4, 1, 1));
        });
        test(21, "no chips at all: the star alone decides", () -> {
            BiddenMoves x = fork(0, 0, 0);
            dueAll(row(1, 0, 0, 1), x.force(0, 0, 0, 0, 1), x.force(0, 0, 0, 1, 1), x.force(1, 0, 0, 0, 1),
                    x.force(1, 0, 0, 1, 1));
        });
        test(21, "at least one of the moves, if this player buys: the last one of 4", () -> {
            BiddenMoves x = board("0:3451;1:A");
            dueAll(row(1, 0), x.force(0, 0, 5, 1, 1), x.force(0, 0, 4, 1, 1));
        });
        test(21, "all of the moves, if the other one buys", () -> {
            BiddenMoves all = board("0:1234;1:A;2:A;3:A;4:A");
            dueAll(row(1, 1), all.force(0, 0, 0, 1, 1), all.force(0, 0, 0, 0, 1));
            BiddenMoves but = board("0:1234;1:A;2:A;3:A");
            dueAll(row(0, 0, 1), but.force(0, 0, 0, 1, 1), but.force(0, 0, 4, 1, 1), but.force(0, 0, 5, 1, 1));
        });
        test(21, "one turn fewer with each turn", () -> {
            BiddenMoves x = board(PATH);
            for (int position = 0; position < 7; position++) {
                dueAll(row(0, 1), x.force(0, position, 8, 0, 6 - position), x.force(0, position, 0, 1, 7 - position));
            }
        });
        test(21, "the own bid is paid: too little is left for a second turn", () -> {
            BiddenMoves x = board(TWO_FORKS);
            dueAll(row(0, 1, 0, 1), x.force(0, 0, 6, 0, 2), x.force(0, 0, 7, 0, 2), x.force(0, 0, 6, 1, 2),
                    x.force(0, 0, 7, 1, 2));
            due(0, x.force(0, 0, 8, 0, 1));
        });
        test(21, "the other one's bid is got, and a tie moves the star", () -> {
            BiddenMoves x = board(STEP_AND_FORK);
            dueAll(row(0, 1, 0, 1), x.force(0, 0, 4, 0, 2), x.force(0, 0, 5, 0, 2), x.force(0, 0, 3, 1, 2),
                    x.force(0, 0, 4, 1, 2));
        });
        test(21, "12 turns are needed: not within 11", () -> {
            BiddenMoves x = board(ROUND);
            x.set(0, 16);
            dueAll(row(0, 1), x.force(0, 0, 0, 1, 11), x.force(0, 0, 0, 1, 12));
        });
        test(21, "13 turns are needed: not within 12", () -> {
            BiddenMoves x = board(ROUND + ";3:0");
            x.set(0, 16);
            dueAll(row(0, 1), x.force(0, 3, 0, 0, 12), x.force(0, 3, 1, 1, 12));
        });
        test(21, "settings, the game and a turn that is bought do not matter, but for all chips", () -> {
            BiddenMoves x = fork(8, 0, 1);
            x.set(1, 0);
            x.place(2, 0, 1);
            due(1, x.force(0, 0, 4, 0, 12));
            BiddenMoves y = fork(8, 4, 0);
            y.bid(2, 0);
            dueAll(row(1, 0), y.force(0, 0, 4, 0, 1), y.force(0, 0, 4, 1, 1));
        });
        test(21, "what the board is now counts, behind each change of it", () -> {
            BiddenMoves x = fork(8, 4, 0);
            due(0, x.force(0, 0, 0, 1, 1));
            x.mark(2, 1);
            due(1, x.force(0, 0, 0, 1, 1));
            x.addMove(0, 5);
            due(0, x.force(0, 0, 0, 1, 1));
            x.clearMoves(0);
            due(0, x.force(0, 0, 8, 0, 1));
            x.undo();
            x.undo();
            due(1, x.force(0, 0, 0, 1, 1));
            x.reverse();
            dueAll(row(0, 1), x.force(0, 0, 8, 0, 1), x.force(1, 0, 0, 0, 1));
            x.keep(0);
            type(x, FORK);
            x.load();
            dueAll(row(1, 0), x.force(0, 0, 4, 0, 1), x.force(1, 0, 0, 0, 1));
            x.goBack(0);
            dueAll(row(0, 1), x.force(0, 0, 8, 0, 1), x.force(1, 0, 0, 0, 1));
        });
    }

    private static void thresholdRanges() {
        test(22, "player one below its range", () -> dueThrow(INDEX, x -> x.threshold(-1, 0, 0, 0)));
        test(22, "player one above its range", () -> dueThrow(INDEX, x -> x.threshold(2, 0, 0, 0)));
        test(22, "position one below its range", () -> dueThrow(INDEX, x -> x.threshold(0, -1, 0, 0)));
        test(22, "position one above its range", () -> dueThrow(INDEX, x -> x.threshold(0, 8, 0, 0)));
        test(22, "player and position far out of their ranges", () -> {
            dueThrow(INDEX, x -> x.threshold(MIN, 0, 0, 0));
            dueThrow(INDEX, x -> x.threshold(MAX, 0, 0, 0));
            dueThrow(INDEX, x -> x.threshold(0, MIN, 0, 0));
            dueThrow(INDEX, x -> x.threshold(0, MAX, 0, 0));
        });
        test(22, "player and position at both ends", () -> {
            BiddenMoves x = board("0:A;7:B");
            for (int what = 0; what < 2; what++) {
                dueAll(row(0, -1, -1, 0), x.threshold(0, 0, 0, what), x.threshold(0, 7, 0, what),
                        x.threshold(1, 0, 0, what), x.threshold(1, 7, 0, what));
            }
        });
        test(22, "star one below its range", () -> dueThrow(ARGUMENT, x -> x.threshold(0, 0, -1, 0)));
        test(22, "star one above its range", () -> dueThrow(ARGUMENT, x -> x.threshold(0, 0, 2, 0)));
        test(22, "what one below its range", () -> dueThrow(ARGUMENT, x -> x.threshold(0, 0, 0, -1)));
        test(22, "what one above its range", () -> dueThrow(ARGUMENT, x -> x.threshold(0, 0, 0, 2)));
        test(22, "star and what far out of their ranges", () -> {
            dueThrow(ARGUMENT, x -> x.threshold(0, 0, MIN, 0));
            dueThrow(ARGUMENT, x -> x.threshold(0, 0, MAX, 0));
            dueThrow(ARGUMENT, x -> x.threshold(0, 0, 0, MIN));
            dueThrow(ARGUMENT, x -> x.threshold(0, 0, 0, MAX));
        });
        test(22, "no such position or player goes ahead of another argument out of range", () -> {
            dueThrow(INDEX, x -> x.threshold(2, 0, 2, 2));
            dueThrow(INDEX, x -> x.threshold(0, 8, -1, -1));
        });
        test(22, "nothing is changed", () -> {
            dueSame(x -> x.threshold(0, 0, 1, 0));
            dueSame(x -> x.threshold(1, 0, 0, 1));
        });
    }

    /** By all bids and by thresholds alone. */
    private static void dueThreshold(int want, BiddenMoves x, int player, int position, int star) {
        dueAll(row(want, want), x.threshold(player, position, star, 0), x.threshold(player, position, star, 1));
    }

    private static void thresholds() {
        test(22, "0, if the position is won for the player, also with no turn", () -> {
            BiddenMoves x = fork(8, 4, 0);
            dueThreshold(0, x, 0, 1, 0);
            dueThreshold(0, x, 1, 2, 1);
            x.set(1, 0);
            dueThreshold(0, x, 0, 1, 1);
            dueThreshold(0, x, 1, 2, 0);
        });
        test(22, "none, if the position is won for the other one", () -> {
            dueThreshold(-1, fork(8, 4, 0), 0, 2, 0);
            dueThreshold(-1, fork(8, 4, 0), 1, 1, 1);
        });
        test(22, "none, if the position has no moves", () -> dueThreshold(-1, fork(8, 4, 0), 0, 5, 0));
        test(22, "none, if no turn is left", () -> {
            BiddenMoves x = fork(8, 4, 0);
            x.set(1, 0);
            dueThreshold(-1, x, 0, 0, 0);
            x.set(1, 1);
            dueThreshold(4, x, 0, 0, 0);
        });
        test(22, "none, if the turns of setting 1 are one too few", () -> {
            BiddenMoves x = board(PATH);
            dueThreshold(-1, x, 0, 0, 0);
            dueThreshold(0, x, 0, 1, 0);
            x.set(1, 7);
            dueThreshold(0, x, 0, 0, 0);
        });
        test(22, "half of the chips with the star, one more without it", () -> {
            BiddenMoves x = fork(8, 4, 0);
            dueThreshold(4, x, 0, 0, 0);
            dueThreshold(5, x, 0, 0, 1);
            dueThreshold(5, x, 1, 0, 0);
            dueThreshold(4, x, 1, 0, 1);
        });
        test(22, "0, if all moves lead to won positions", () -> dueThreshold(0, board("0:12;1:A;2:A"), 0, 0, 1));
        test(22, "no chips: 0 with the star, none without it", () -> {
            BiddenMoves x = fork(0, 0, 0);
            dueThreshold(0, x, 0, 0, 0);
            dueThreshold(-1, x, 0, 0, 1);
            dueThreshold(-1, x, 1, 0, 0);
            dueThreshold(0, x, 1, 0, 1);
        });
        test(22, "all chips, and none could be more: one chip", () -> {
            BiddenMoves x = fork(1, 0, 0);
            dueThreshold(1, x, 0, 0, 0);
            dueThreshold(1, x, 0, 0, 1);
        });
        test(22, "20 chips", () -> {
            BiddenMoves x = fork(20, 4, 0);
            dueThreshold(10, x, 0, 0, 0);
            dueThreshold(11, x, 0, 0, 1);
        });
        test(22, "all of 20 chips are needed, and more than there are", () -> {
            // the other one wins but for a bid that can't be topped four times
            String fourForks = "0:15;1:25;2:35;3:45;4:A;5:B";
            BiddenMoves x = board(fourForks, 20, 0, 0);
            dueThreshold(20, x, 0, 0, 0);
            x.set(0, 3);
            dueThreshold(-1, x, 0, 0, 1);
        });
        test(22, "two turns one behind the other", () -> {
            dueThreshold(7, board(TWO_FORKS), 0, 0, 0);
            dueThreshold(7, board(TWO_FORKS), 0, 0, 1);
        });
        test(22, "the star is worth less ahead of a turn that leads on anyhow", () -> {
            dueThreshold(5, board(STEP_AND_FORK), 0, 0, 0);
            dueThreshold(4, board(STEP_AND_FORK), 0, 0, 1);
        });
        test(22, "12 turns, and 11", () -> {
            BiddenMoves x = board(ROUND);
            x.set(0, 16);
            x.set(1, 12);
            dueThreshold(0, x, 0, 0, 1);
            x.set(1, 11);
            dueThreshold(1, x, 0, 0, 1);
        });
        test(22, "budgets, the star of now and a turn that is bought do not matter", () -> {
            BiddenMoves x = fork(8, 8, 1);
            x.bid(5, 0);
            dueThreshold(4, x, 0, 0, 0);
        });
        test(22, "with each greater budget it can be forced, too, with no smaller one; the same for both", () -> {
            for (String text : new String[] {FORK, PATH, STEP_AND_FORK, TWO_FORKS, ROUND, "0:12;1:02;2:013;3:A;4:B"}) {
                for (int chips = 0; chips <= 20; chips += 5) {
                    dueLeast(board(text, chips, 0, 0), chips, 0, 0);
                    dueLeast(board(text, chips, 0, 0), chips, 0, 1);
                    dueLeast(board(text, chips, 0, 0), chips, 1, 0);
                    dueLeast(board(text, chips, 0, 0), chips, 1, 1);
                }
            }
        });
    }

    private static void dueLeast(BiddenMoves x, int chips, int player, int star) {
        for (int position = 0; position < 8; position++) {
            int least = x.threshold(player, position, star, 0);
            due(least, x.threshold(player, position, star, 1));
            for (int budget = 0; budget <= chips; budget++) {
                due(least >= 0 && budget >= least ? 1 : 0, x.force(player, position, budget, star, 6));
            }
        }
    }

    private static void advice() {
        test(23, "player one below its range", () -> dueThrow(INDEX, x -> x.advice(-1)));
        test(23, "player one above its range", () -> dueThrow(INDEX, x -> x.advice(2)));
        test(23, "player far out of its range", () -> {
            dueThrow(INDEX, x -> x.advice(MIN));
            dueThrow(INDEX, x -> x.advice(MAX));
        });
        test(23, "no such player, also if the game is over", () -> {
            dueThrow(INDEX, BiddenMoves::new, x -> x.advice(-1));
            dueThrow(INDEX, BiddenMoves::new, x -> x.advice(2));
        });
        test(23, "the bid 0, without any chip", () -> {
            BiddenMoves x = board("0:12;1:A;2:A", 8, 0, 1);
            due(0, x.advice(0));
            dueAll(row(0, -1), fork(0, 0, 0).advice(0), fork(0, 0, 0).advice(1));
        });
        test(23, "the bid 0 of all chips: with the star it meets 0, without it 1 is needed", () -> {
            dueAll(row(0, 1), fork(8, 8, 0).advice(0), fork(8, 8, 1).advice(0));
            dueAll(row(0, 1), fork(20, 0, 1).advice(1), fork(20, 0, 0).advice(1));
        });
        test(23, "a bid of the whole budget", () -> {
            due(4, fork(8, 4, 0).advice(0));
            due(4, fork(8, 4, 1).advice(1));
        });
        test(23, "the least one of several bids that win", () -> {
            due(1, board(TWO_FORKS, 8, 7, 0).advice(0));
            due(2, board(TWO_FORKS, 8, 7, 1).advice(0));
        });
        test(23, "none, if no bid wins", () -> {
            dueAll(row(-1, -1), fork(8, 4, 1).advice(0), fork(8, 4, 0).advice(1));
            due(-1, board("0:1;1:0").advice(0));
        });
        test(23, "none, if the game is over: won for the player", () -> {
            BiddenMoves x = fork(8, 4, 0);
            x.place(1, 4, 0);
            due(-1, x.advice(0));
        });
        test(23, "none, if the game is over: won for the other one, without moves, by a mark with moves", () -> {
            BiddenMoves x = fork(8, 4, 0);
            x.place(2, 8, 0);
            due(-1, x.advice(0));
            x.place(5, 8, 0);
            due(-1, x.advice(0));
            x.place(0, 8, 0);
            x.mark(0, 1);
            due(-1, x.advice(0));
        });
        test(23, "none, if no turn is left; with one turn it wins", () -> {
            BiddenMoves x = fork(8, 4, 0);
            x.set(1, 0);
            due(-1, x.advice(0));
            x.set(1, 1);
            due(4, x.advice(0));
        });
        test(23, "none, if the turns of setting 1 are one too few", () -> {
            BiddenMoves x = board(PATH);
            due(-1, x.advice(0));
            x.set(1, 7);
            due(0, x.advice(0));
        });
        test(23, "a turn that is bought already does not matter", () -> {
            BiddenMoves x = fork(8, 4, 0);
            x.bid(1, 0);
            dueAll(row(-1, 4), x.advice(0), x.advice(1));
            x.undo();
            x.bid(0, 2);
            dueAll(row(2, -1), x.advice(0), x.advice(1));
        });
        test(23, "nothing is changed", () -> {
            dueSame(x -> x.advice(0));
            dueSame(x -> x.advice(1));
        });
    }

    private static void refutedRanges() {
        test(24, "player one below its range", () -> dueThrow(INDEX, x -> x.refuted(-1, 0)));
        test(24, "player one above its range", () -> dueThrow(INDEX, x -> x.refuted(2, 0)));
        test(24, "player far out of its range", () -> {
            dueThrow(INDEX, x -> x.refuted(MIN, 0));
            dueThrow(INDEX, x -> x.refuted(MAX, 0));
        });
        test(24, "bid one below 0", () -> dueThrow(ARGUMENT, x -> x.refuted(0, -1)));
        test(24, "bid one above the budget, of each player", () -> {
            // 6 and 3 chips
            dueThrow(ARGUMENT, x -> x.refuted(0, 7));
            dueThrow(ARGUMENT, x -> x.refuted(1, 4));
        });
        test(24, "bid far out of its range", () -> {
            dueThrow(ARGUMENT, x -> x.refuted(0, MIN));
            dueThrow(ARGUMENT, x -> x.refuted(0, MAX));
        });
        test(24, "bid out of range, though the game is over, or no turn is left", () -> {
            dueThrow(ARGUMENT, BiddenMoves::new, x -> x.refuted(0, 5));
            dueThrow(ARGUMENT, BiddenMoves::new, x -> x.refuted(0, -1));
            dueThrow(ARGUMENT, () -> board("0:A"), x -> x.refuted(0, 5));
            dueThrow(ARGUMENT, () -> board("0:A"), x -> x.refuted(0, -1));
        });
        test(24, "no such player goes ahead of a bid out of range", () -> {
            dueThrow(INDEX, x -> x.refuted(2, -1));
            dueThrow(INDEX, x -> x.refuted(-1, 10));
        });
        test(24, "the only bid of a player without chips", () -> {
            due(0, fork(8, 0, 1).refuted(0, 0));
            dueThrow(ARGUMENT, () -> fork(8, 0, 1), x -> x.refuted(0, 1));
        });
        test(24, "nothing is changed", () -> {
            dueSame(x -> x.refuted(0, 6));
            dueSame(x -> x.refuted(1, 0));
        });
    }

    private static void refuted() {
        test(24, "a bid of 0, with the star: by 1", () -> due(1, fork(8, 4, 0).refuted(0, 0)));
        test(24, "a bid of 0, without the star: by 0", () -> due(0, fork(8, 4, 0).refuted(1, 0)));
        test(24, "with the star by one chip more, without it by as many", () -> {
            dueAll(row(2, 4), fork(8, 4, 0).refuted(0, 1), fork(8, 4, 0).refuted(0, 3));
            dueAll(row(1, 3), fork(8, 4, 0).refuted(1, 1), fork(8, 4, 0).refuted(1, 3));
        });
        test(24, "the whole budget, with the star: none", () -> due(-1, fork(8, 4, 0).refuted(0, 4)));
        test(24, "the whole budget, without the star: by the other one's whole budget",
                () -> due(4, fork(8, 4, 0).refuted(1, 4)));
        test(24, "none, if the other one has no chip to top it", () -> {
            dueAll(row(-1, 0, -1), fork(8, 8, 0).refuted(0, 0), fork(8, 8, 1).refuted(0, 0),
                    fork(8, 8, 1).refuted(0, 1));
        });
        test(24, "too much is paid: by the bid 0", () -> {
            BiddenMoves x = board(TWO_FORKS, 8, 7, 0);
            dueAll(row(1, -1, -1, -1, 0, 0, 0, 0), x.refuted(0, 0), x.refuted(0, 1), x.refuted(0, 2), x.refuted(0, 3),
                    x.refuted(0, 4), x.refuted(0, 5), x.refuted(0, 6), x.refuted(0, 7));
        });
        test(24, "by a tie alone that gives the star away", () -> {
            BiddenMoves x = board(STEP_AND_FORK, 8, 4, 0);
            dueAll(row(0, 0), x.refuted(0, 0), x.refuted(0, 1));
        });
        test(24, "NONE, if the position is won for the player, also if no turn is left", () -> {
            BiddenMoves x = board("0:A;1:B");
            dueAll(row(-1, -1), x.refuted(0, 0), x.refuted(0, 4));
            x.set(1, 0);
            dueAll(row(-1, -1), x.refuted(0, 0), x.refuted(0, 4));
            x.place(1, 4, 0);
            due(-1, x.refuted(1, 4));
        });
        test(24, "NONE, if the position is won for the player and has moves to lost ones", () -> {
            BiddenMoves x = board("0:1;1:B");
            x.mark(0, 1);
            due(-1, x.refuted(0, 0));
        });
        test(24, "0, if the position is won for the other one", () -> {
            BiddenMoves x = board("0:A;1:B");
            dueAll(row(0, 0), x.refuted(1, 0), x.refuted(1, 4));
            x.place(1, 8, 0);
            dueAll(row(0, 0), x.refuted(0, 0), x.refuted(0, 8));
        });
        test(24, "0, if the position is won for the other one and has moves to won ones", () -> {
            BiddenMoves x = board("0:1;1:A");
            x.mark(0, 2);
            dueAll(row(0, 0), x.refuted(0, 0), x.refuted(0, 4));
        });
        test(24, "0, if the position has no moves", () -> {
            BiddenMoves x = new BiddenMoves();
            dueAll(row(0, 0, 0), x.refuted(0, 0), x.refuted(0, 4), x.refuted(1, 4));
        });
        test(24, "0, if no turn is left; with one turn none", () -> {
            BiddenMoves x = fork(8, 4, 0);
            x.set(1, 0);
            dueAll(row(0, 0), x.refuted(0, 0), x.refuted(0, 4));
            x.set(1, 1);
            due(-1, x.refuted(0, 4));
        });
        test(24, "one turn too few: by the bid 0", () -> {
            BiddenMoves x = board(PATH);
            due(0, x.refuted(0, 4));
            x.set(1, 7);
            due(-1, x.refuted(0, 0));
        });
        test(24, "no chips: the star decides", () -> {
            dueAll(row(-1, 0), fork(0, 0, 0).refuted(0, 0), fork(0, 0, 0).refuted(1, 0));
        });
        test(24, "a turn that is bought already does not matter", () -> {
            BiddenMoves x = fork(8, 4, 0);
            x.bid(0, 2);
            dueAll(row(2, -1, 0, 2), x.refuted(0, 1), x.refuted(0, 2), x.refuted(1, 0), x.refuted(1, 2));
        });
        test(24, "the bids below advice() are refuted, that one is not", () -> {
            for (String text : new String[] {FORK, TWO_FORKS, STEP_AND_FORK, ROUND}) {
                for (int budget = 0; budget <= 8; budget++) {
                    BiddenMoves x = board(text, 8, budget, budget % 2);
                    int least = x.advice(0);
                    for (int bid = 0; bid < (least < 0 ? budget + 1 : least); bid++) {
                        due(1, x.refuted(0, bid) >= 0 ? 1 : 0);
                    }
                    if (least >= 0) due(-1, x.refuted(0, least));
                }
            }
        });
    }

    /** From 0 to the fork at 3, and to 1, which is won for the player 0; from 6 on all is lost for that player. */
    private static BiddenMoves choice(int budget, int star) {
        return board("0:6315;1:A;2:B;3:12;5:A;6:2", 8, budget, star);
    }

    private static void bestMoveRanges() {
        test(25, "player one below its range", () -> dueThrow(INDEX, x -> x.bestMove(-1, 0)));
        test(25, "player one above its range", () -> dueThrow(INDEX, x -> x.bestMove(2, 0)));
        test(25, "player far out of its range", () -> {
            dueThrow(INDEX, x -> x.bestMove(MIN, 0));
            dueThrow(INDEX, x -> x.bestMove(MAX, 0));
        });
        test(25, "bid one below 0", () -> dueThrow(ARGUMENT, x -> x.bestMove(0, -1)));
        test(25, "bid one above the own budget, of each player", () -> {
            // 6 and 3 chips
            dueThrow(ARGUMENT, x -> x.bestMove(0, 7));
            dueThrow(ARGUMENT, x -> x.bestMove(1, 4));
        });
        test(25, "bid far out of its range", () -> {
            dueThrow(ARGUMENT, x -> x.bestMove(0, MIN));
            dueThrow(ARGUMENT, x -> x.bestMove(0, MAX));
        });
        test(25, "bid out of range, though the game is over", () -> {
            dueThrow(ARGUMENT, BiddenMoves::new, x -> x.bestMove(0, 5));
            dueThrow(ARGUMENT, BiddenMoves::new, x -> x.bestMove(0, -1));
        });
        test(25, "no such player goes ahead of a bid out of range", () -> {
            dueThrow(INDEX, x -> x.bestMove(2, -1));
            dueThrow(INDEX, x -> x.bestMove(-1, 10));
        });
        test(25, "nothing is changed", () -> {
            dueSame(x -> x.bestMove(0, 6));
            dueSame(x -> x.bestMove(1, 0));
        });
    }

    private static void bestMove() {
        test(25, "a bid of 0 leaves the whole budget", () -> due(3, choice(4, 0).bestMove(0, 0)));
        test(25, "a bid of 1 leaves too little", () -> due(1, choice(4, 0).bestMove(0, 1)));
        test(25, "a bid of the whole budget", () -> {
            dueAll(row(1, 6), choice(4, 0).bestMove(0, 4), choice(4, 0).bestMove(1, 4));
            due(1, choice(0, 0).bestMove(0, 0));
        });
        test(25, "the star does not go over", () -> {
            dueAll(row(3, 1), choice(4, 0).bestMove(0, 0), choice(4, 1).bestMove(0, 0));
            dueAll(row(3, 1), choice(6, 0).bestMove(0, 2), choice(6, 1).bestMove(0, 2));
        });
        test(25, "the first one of several moves, in their order, not by their numbers", () -> {
            due(5, board("0:51;1:A;5:A").bestMove(0, 0));
            due(1, board("0:15;1:A;5:A").bestMove(0, 0));
        });
        test(25, "the fourth of 4 moves", () -> due(1, board("0:3451;1:A").bestMove(0, 0)));
        test(25, "none of the moves", () -> {
            dueAll(row(-1, 1), board("0:15;1:A;5:A").bestMove(1, 0), board("0:15;1:A;5:A").bestMove(0, 4));
            due(-1, board("0:3;3:0").bestMove(0, 0));
        });
        test(25, "one turn fewer than setting 1", () -> {
            BiddenMoves x = choice(4, 0);
            x.set(1, 2);
            due(3, x.bestMove(0, 0));
            x.set(1, 1);
            dueAll(row(1, -1), x.bestMove(0, 0), x.bestMove(1, 0));
        });
        test(25, "none of the moves, with no turn left behind them", () -> {
            BiddenMoves x = board("0:1234;1:0;2:0;3:B");
            x.set(1, 1);
            dueAll(row(-1, 3), x.bestMove(0, 0), x.bestMove(1, 0));
        });
        test(25, "NONE, if setting 1 is 0, though a move leads to a won position", () -> {
            BiddenMoves x = choice(4, 0);
            x.set(1, 0);
            dueAll(row(-1, -1), x.bestMove(0, 0), x.bestMove(0, 4));
        });
        test(25, "NONE, if the game is over: by the marks 1 and 2 in spite of moves, without moves", () -> {
            BiddenMoves x = choice(4, 0);
            x.mark(0, 1);
            due(-1, x.bestMove(0, 0));
            x.mark(0, 2);
            due(-1, x.bestMove(0, 0));
            due(-1, new BiddenMoves().bestMove(0, 0));
        });
        test(25, "a turn that is bought already does not matter: the bid is taken off the budget of now", () -> {
            BiddenMoves x = choice(6, 0);
            dueAll(row(10, 4), x.bid(2, 0), x.playerOf(0, 0));
            dueAll(row(3, 1), x.bestMove(0, 0), x.bestMove(0, 1));
            dueThrow(ARGUMENT, () -> {
                BiddenMoves y = choice(6, 0);
                y.bid(2, 0);
                return y;
            }, y -> y.bestMove(0, 5));
        });
    }

    private static void winIn() {
        test(26, "player one below its range", () -> dueThrow(INDEX, x -> x.winIn(-1)));
        test(26, "player one above its range", () -> dueThrow(INDEX, x -> x.winIn(2)));
        test(26, "player far out of its range", () -> {
            dueThrow(INDEX, x -> x.winIn(MIN));
            dueThrow(INDEX, x -> x.winIn(MAX));
        });
        test(26, "0 turns, if the position is won, with no chip", () -> {
            BiddenMoves x = board("0:A", 8, 0, 1);
            dueAll(row(0, -1), x.winIn(0), x.winIn(1));
            x.mark(0, 2);
            dueAll(row(-1, 0), x.winIn(0), x.winIn(1));
        });
        test(26, "1 turn", () -> dueAll(row(1, -1), fork(8, 4, 0).winIn(0), fork(8, 4, 0).winIn(1)));
        test(26, "each number of turns up to 7, along a path", () -> {
            BiddenMoves x = board(PATH);
            for (int position = 0; position < 8; position++) {
                x.place(position, 4, 0);
                dueAll(row(7 - position, -1), x.winIn(0), x.winIn(1));
            }
        });
        test(26, "the least number, where a longer way wins, too", () -> {
            dueAll(row(1, 2), board("0:13;1:A;3:1", 8, 8, 0).winIn(0), board("0:13;1:A;3:1", 8, 0, 0).winIn(0));
        });
        test(26, "12 turns", () -> due(12, board(ROUND, 16, 0, 1).winIn(0)));
        test(26, "none, where 13 turns would do", () -> {
            BiddenMoves x = board(ROUND + ";3:0", 16, 0, 0);
            x.place(3, 0, 0);
            due(-1, x.winIn(0));
            x.place(3, 1, 1);
            due(11, x.winIn(0));
        });
        test(26, "none, if it cannot be forced",
                () -> dueAll(row(-1, 1), fork(8, 4, 1).winIn(0), fork(8, 4, 1).winIn(1)));
        test(26, "none, without moves", () -> {
            BiddenMoves x = new BiddenMoves();
            dueAll(row(-1, -1), x.winIn(0), x.winIn(1));
        });
        test(26, "the budgets and the star of now count", () -> {
            dueAll(row(-1, 1, 1, -1), fork(8, 3, 0).winIn(0), fork(8, 4, 0).winIn(0), fork(8, 5, 1).winIn(0),
                    fork(8, 4, 1).winIn(0));
        });
        test(26, "setting 1 does not matter", () -> {
            BiddenMoves x = board(ROUND, 16, 0, 1);
            x.set(1, 0);
            due(12, x.winIn(0));
            x.set(1, 12);
            due(12, x.winIn(0));
        });
        test(26, "a turn that is bought already does not matter", () -> {
            BiddenMoves x = fork(8, 4, 0);
            x.bid(0, 1);
            dueAll(row(1, -1), x.winIn(0), x.winIn(1));
        });
        test(26, "nothing is changed", () -> {
            dueSame(x -> x.winIn(0));
            dueSame(x -> x.winIn(1));
        });
    }

    private static void forcedShare() {
        test(27, "nothing: 0.0", () -> {
            dueShare(0.0, new BiddenMoves().forcedShare());
            dueShare(0.0, board("0:B;1:B").forcedShare());
        });
        test(27, "all: 1.0", () -> {
            BiddenMoves x = new BiddenMoves();
            for (int position = 0; position < 8; position++) x.mark(position, 1);
            dueShare(1.0, x.forcedShare());
            x.set(0, 0);
            x.set(1, 0);
            dueShare(1.0, x.forcedShare());
        });
        test(27, "one position of 8", () -> dueShare(0.125, board("7:A").forcedShare()));
        test(27, "the player 1 does not count", () -> {
            BiddenMoves x = board("0:2;1:B;2:A");
            dueShare(2.0 / 8, x.forcedShare());
            x.reverse();
            dueShare(1.0 / 8, x.forcedShare());
        });
        test(27, "no chips: one budget alone, with both holders of the star",
                () -> dueShare(3.0 / 16, fork(0, 0, 0).forcedShare()));
        test(27, "20 chips: 21 budgets", () -> dueShare((42 + 11 + 10) / 336.0, fork(20, 0, 0).forcedShare()));
        test(27, "a share that no double tells exactly",
                () -> dueShare((18 + 9 + 4) / 144.0, board(TWO_FORKS).forcedShare()));
        test(27, "no turn: the positions that are won", () -> {
            BiddenMoves x = fork(8, 4, 0);
            x.set(1, 0);
            dueShare(18.0 / 144, x.forcedShare());
            x.set(1, 1);
            dueShare(27.0 / 144, x.forcedShare());
        });
        test(27, "the turns of setting 1, up to 12", () -> {
            BiddenMoves x = board(PATH);
            for (int turns = 0; turns <= 12; turns++) {
                x.set(1, turns);
                dueShare(Math.min(turns + 1, 8) / 8.0, x.forcedShare());
            }
        });
        test(27, "the budgets, the star and the position of now, and a bought turn, do not matter", () -> {
            BiddenMoves x = fork(8, 8, 1);
            x.bid(3, 0);
            dueShare(27.0 / 144, x.forcedShare());
            x.place(2, 0, 0);
            dueShare(27.0 / 144, x.forcedShare());
        });
        test(27, "nothing is changed", () -> dueSame(x -> (long) (144 * x.forcedShare())));
    }

    /** The numbers were found by a program in another language, whose integers do not overflow. */
    private static void digest() {
        test(28, "a new object: the hash overflows often",
                () -> due(-8825313925376906585L, new BiddenMoves().digest()));
        test(28, "each slot: 1 if it has a snapshot, otherwise 0, and the characters of the buffer", () -> {
            BiddenMoves x = new BiddenMoves();
            x.keep(1);
            type(x, "!~");
            due(4375591619186548037L, x.digest());
        });
        test(28, "the slot 0 and the slot 1 are told apart", () -> {
            BiddenMoves x = new BiddenMoves();
            long empty = x.digest();
            x.keep(0);
            due(31 * 31, x.digest() - empty);
            x.keep(1);
            due(31 * 31 + 31, x.digest() - empty);
        });
        test(28, "a snapshot that is replaced counts as one", () -> {
            BiddenMoves x = new BiddenMoves();
            x.keep(0);
            long once = x.digest();
            x.keep(0);
            due(once, x.digest());
        });
        test(28, "an empty buffer counts by its length alone", () -> {
            BiddenMoves x = new BiddenMoves();
            long empty = x.digest();
            x.append(33);
            due(31 * (empty + 1) + 33, x.digest());
            x.clearBuffer();
            due(empty, x.digest());
        });
        test(28, "a buffer of 60 characters", () -> {
            BiddenMoves x = new BiddenMoves();
            type(x, "~".repeat(60));
            due(-689455625493920541L, x.digest());
        });
        test(28, "a board, with a share that no double tells exactly",
                () -> due(8910677071910169949L, board(TWO_FORKS).digest()));
        test(28, "a turn that is bought, and counts", () -> {
            BiddenMoves x = board(TWO_FORKS);
            x.bid(1, 0);
            due(-2916567280423264479L, x.digest());
        });
        test(28, "no turn, 20 chips, all of them with one player, the game over", () -> {
            BiddenMoves x = board(TWO_FORKS);
            x.set(0, 20);
            x.set(1, 0);
            x.place(4, 20, 1);
            due(4759132958202136483L, x.digest());
        });
        test(28, "12 turns", () -> {
            BiddenMoves x = board(ROUND);
            x.set(0, 16);
            x.set(1, 12);
            x.place(0, 0, 1);
            due(2796967328467283225L, x.digest());
        });
        test(28, "no chips", () -> {
            BiddenMoves x = board(FORK);
            x.set(0, 0);
            due(-8582566346090035394L, x.digest());
        });
        test(28, "32 moves", () -> {
            BiddenMoves x = board("0:1234;1:2345;2:3456;3:4567;4:5670;5:6701;6:7012;7:0123");
            due(-7711782177794940199L, x.digest());
        });
        test(28, "nothing is changed", () -> dueSame(x -> x.digest()));
    }

    public static void main(String[] args) {
        forceRanges();
        forceWithoutATurn();
        forceByBids();
        thresholdRanges();
        thresholds();
        advice();
        refutedRanges();
        refuted();
        bestMoveRanges();
        bestMove();
        winIn();
        forcedShare();
        digest();
        end(21, 28);
    }
}
