/** The boundary cases that the document names for the promises 1 to 6: a new object, and the board. */
public final class BoardEdgesTest extends Cases {
    private static void newObject() {
        test(1, "a new object has no moves", () -> {
            BiddenMoves x = new BiddenMoves();
            for (int position = 0; position < 8; position++) due(0, x.positionOf(position, 1));
            due(0, x.count(9));
        });
        test(1, "a new object has no marks", () -> {
            BiddenMoves x = new BiddenMoves();
            for (int position = 0; position < 8; position++) due(0, x.positionOf(position, 0));
            dueAll(row(0, 0), x.playerOf(0, 4), x.playerOf(1, 4));
        });
        test(1, "8 chips at first", () -> {
            BiddenMoves x = new BiddenMoves();
            dueAll(row(8, 8), x.setting(0), x.count(5));
        });
        test(1, "each player has half of the chips at first", () -> {
            BiddenMoves x = new BiddenMoves();
            dueAll(row(4, 4), x.playerOf(0, 0), x.playerOf(1, 0));
        });
        test(1, "6 turns at first", () -> due(6, new BiddenMoves().setting(1)));
        test(1, "the player 0 has the star at first", () -> {
            BiddenMoves x = new BiddenMoves();
            dueAll(row(1, 0, 0), x.playerOf(0, 1), x.playerOf(1, 1), x.count(4));
        });
        test(1, "the game is at the position 0 at first", () -> due(0, new BiddenMoves().count(0)));
        test(1, "the game is over at first, since there is no move, but won for neither", () -> {
            BiddenMoves x = new BiddenMoves();
            dueAll(row(1, -1), x.count(1), x.count(2));
        });
        test(1, "no turn is bought at first", () -> due(-1, new BiddenMoves().count(3)));
        test(1, "nothing is counted at first", () -> {
            BiddenMoves x = new BiddenMoves();
            dueAll(row(0, 0, 0), x.count(6), x.count(7), x.count(8));
            dueAll(row(0, 0, 0, 0), x.playerOf(0, 2), x.playerOf(1, 2), x.playerOf(0, 3), x.playerOf(1, 3));
        });
        test(1, "the slot 0 is empty at first", () -> dueThrow(STATE, BiddenMoves::new, x -> x.goBack(0)));
        test(1, "the slot 1 is empty at first", () -> dueThrow(STATE, BiddenMoves::new, x -> x.goBack(1)));
        test(1, "the buffer is empty at first", () -> due(0, new BiddenMoves().clearBuffer()));
        test(1, "no state is saved at first", () -> {
            due(0, new BiddenMoves().count(10));
            dueThrow(STATE, BiddenMoves::new, x -> x.undo());
        });
        test(1, "NONE is -1", () -> due(-1, BiddenMoves.NONE));
        test(1, "one object knows nothing of another", () -> {
            rich();
            BiddenMoves x = new BiddenMoves();
            BiddenMoves y = new BiddenMoves();
            type(x, "0:1;1:0");
            x.load();
            x.bid(1, 0);
            x.keep(0);
            x.append(65);
            dueLooks(looks(new BiddenMoves()), looks(y));
            dueAll(row(0, 0), y.clearBuffer(), y.count(10));
        });
        test(1, "an object is used for 512 calls", () -> {
            BiddenMoves x = board("0:1;1:0");
            // so far 9 calls
            for (int turn = 0; turn < 250; turn++) {
                dueAll(row(10 + turn % 2, 10), x.bid(0, 0), x.move(1 - turn % 2));
            }
            dueAll(row(0, 250, 6), x.count(0), x.count(7), x.count(10));
        });
    }

    private static void addMove() {
        test(2, "position one below its range", () -> dueThrow(INDEX, x -> x.addMove(-1, 0)));
        test(2, "position one above its range", () -> dueThrow(INDEX, x -> x.addMove(8, 0)));
        test(2, "position far out of its range", () -> {
            dueThrow(INDEX, x -> x.addMove(MIN, 0));
            dueThrow(INDEX, x -> x.addMove(MAX, 0));
        });
        test(2, "position at the lower end", () -> {
            BiddenMoves x = new BiddenMoves();
            dueAll(row(1, 5), x.addMove(0, 5), x.positionOf(0, 2));
        });
        test(2, "position at the upper end", () -> {
            BiddenMoves x = new BiddenMoves();
            dueAll(row(1, 5), x.addMove(7, 5), x.positionOf(7, 2));
        });
        test(2, "to one below its range", () -> dueThrow(INDEX, x -> x.addMove(7, -1)));
        test(2, "to one above its range", () -> dueThrow(INDEX, x -> x.addMove(7, 8)));
        test(2, "to far out of its range", () -> {
            dueThrow(INDEX, x -> x.addMove(7, MIN));
            dueThrow(INDEX, x -> x.addMove(7, MAX));
        });
        test(2, "to at the lower end", () -> {
            BiddenMoves x = new BiddenMoves();
            dueAll(row(1, 0), x.addMove(5, 0), x.positionOf(5, 2));
        });
        test(2, "to at the upper end", () -> {
            BiddenMoves x = new BiddenMoves();
            dueAll(row(1, 7), x.addMove(5, 7), x.positionOf(5, 2));
        });
        test(2, "both are the same", () -> {
            for (int position = 0; position < 8; position++) {
                int same = position;
                dueThrow(ARGUMENT, x -> x.addMove(same, same));
                dueThrow(ARGUMENT, BiddenMoves::new, x -> x.addMove(same, same));
            }
        });
        test(2, "no such position goes ahead of both the same", () -> {
            dueThrow(INDEX, x -> x.addMove(8, 8));
            dueThrow(INDEX, x -> x.addMove(-1, -1));
        });
        test(2, "no such position goes ahead of 4 moves", () -> dueThrow(INDEX, x -> x.addMove(0, 8)));
        test(2, "both the same goes ahead of 4 moves", () -> dueThrow(ARGUMENT, x -> x.addMove(0, 0)));
        test(2, "the same move again, the only one", () -> dueThrow(STATE, x -> x.addMove(4, 0)));
        test(2, "the same move again, the first of two", () -> dueThrow(STATE, x -> x.addMove(3, 0)));
        test(2, "the same move again, the last of two", () -> dueThrow(STATE, x -> x.addMove(3, 1)));
        test(2, "the same move again, among 4", () -> dueThrow(STATE, x -> x.addMove(0, 4)));
        test(2, "a fifth move", () -> {
            for (int to = 5; to < 8; to++) {
                int fifth = to;
                dueThrow(STATE, x -> x.addMove(0, fifth));
            }
        });
        test(2, "the answers up to 4 moves", () -> {
            BiddenMoves x = new BiddenMoves();
            dueAll(row(1, 2, 3, 4), x.addMove(6, 7), x.addMove(6, 0), x.addMove(6, 5), x.addMove(6, 1));
        });
        test(2, "the moves stand in the order in which they came", () -> {
            BiddenMoves x = new BiddenMoves();
            for (int to : new int[] {7, 0, 5, 1}) x.addMove(6, to);
            dueAll(row(7, 0, 5, 1), x.positionOf(6, 2), x.positionOf(6, 3), x.positionOf(6, 4), x.positionOf(6, 5));
        });
        test(2, "the moves of other positions do not count", () -> {
            BiddenMoves x = board("0:1234");
            dueAll(row(1, 1, 4, 6), x.addMove(1, 0), x.addMove(7, 1), x.positionOf(0, 1), x.count(9));
        });
        test(2, "the same move, and a fourth one, once all are taken away", () -> {
            BiddenMoves x = board("0:1234");
            x.clearMoves(0);
            dueAll(row(1, 2, 3, 4), x.addMove(0, 4), x.addMove(0, 1), x.addMove(0, 2), x.addMove(0, 7));
        });
        test(2, "a position with a mark takes moves, and its mark stays", () -> {
            BiddenMoves x = board("0:1;1:A");
            dueAll(row(1, 1, 1), x.addMove(1, 0), x.positionOf(1, 0), x.positionOf(1, 1));
        });
        test(2, "the game is not over any more by the first move", () -> {
            BiddenMoves x = new BiddenMoves();
            dueAll(row(1, 1, 0), x.count(1), x.addMove(0, 1), x.count(1));
        });
        test(2, "a turn that is bought stays, and may be used for the new move", () -> {
            BiddenMoves x = board("0:1");
            x.bid(1, 0);
            dueAll(row(2, 0, 11), x.addMove(0, 5), x.count(3), x.move(5));
        });
        test(2, "nothing else is changed", () -> {
            dueChanges("count9 position6.1 position6.2 position7.6", Cases::rich, x -> x.addMove(6, 7));
            dueChanges("count9 position3.1 position3.4 position7.6", Cases::strange, x -> x.addMove(3, 7));
        });
        test(2, "undoable", () -> dueUndone(x -> x.addMove(5, 7)));
    }

    private static void clearMoves() {
        test(3, "position one below its range", () -> dueThrow(INDEX, x -> x.clearMoves(-1)));
        test(3, "position one above its range", () -> dueThrow(INDEX, x -> x.clearMoves(8)));
        test(3, "position far out of its range", () -> {
            dueThrow(INDEX, x -> x.clearMoves(MIN));
            dueThrow(INDEX, x -> x.clearMoves(MAX));
        });
        test(3, "position at the lower end", () -> {
            BiddenMoves x = board("0:12;7:1");
            dueAll(row(2, 0, 1), x.clearMoves(0), x.positionOf(0, 1), x.count(9));
        });
        test(3, "position at the upper end", () -> {
            BiddenMoves x = board("0:12;7:1");
            dueAll(row(1, 0, 2), x.clearMoves(7), x.positionOf(7, 1), x.count(9));
        });
        test(3, "no moves", () -> due(0, new BiddenMoves().clearMoves(0)));
        test(3, "4 moves, and none of them is left", () -> {
            BiddenMoves x = board("0:1234");
            dueAll(row(4, 0, 0), x.clearMoves(0), x.positionOf(0, 1), x.clearMoves(0));
            dueAll(row(-1, -1, -1, -1), x.positionOf(0, 2), x.positionOf(0, 3), x.positionOf(0, 4),
                    x.positionOf(0, 5));
            dueAll(row(0, 0), x.positionOf(1, 6), x.positionOf(4, 6));
        });
        test(3, "moves to the position stay", () -> {
            BiddenMoves x = board("0:1;1:0;2:0");
            dueAll(row(1, 2), x.clearMoves(0), x.positionOf(0, 6));
        });
        test(3, "the mark stays", () -> {
            BiddenMoves x = board("0:B");
            x.addMove(0, 1);
            dueAll(row(1, 2), x.clearMoves(0), x.positionOf(0, 0));
        });
        test(3, "the game is over by it, and a turn that is bought stays bought", () -> {
            BiddenMoves x = board("0:1;1:0");
            x.bid(0, 1);
            dueAll(row(1, 1, 1), x.clearMoves(0), x.count(1), x.count(3));
        });
        test(3, "nothing else is changed", () -> {
            dueChanges("count1 count9 position0.1 position0.2 position0.3 position0.4 position0.5 position1.6 position2.6"
                    + " position3.6 position4.6", Cases::rich, x -> x.clearMoves(0));
            dueChanges("count9 position6.1 position6.2 position3.6", Cases::strange, x -> x.clearMoves(6));
        });
        test(3, "undoable", () -> dueUndone(x -> x.clearMoves(0)));
        test(3, "undoable, also if it changes nothing", () -> dueUndone(x -> x.clearMoves(7)));
        test(3, "undo brings the moves back in their order, also behind new ones", () -> {
            BiddenMoves x = board("0:7351");
            x.clearMoves(0);
            x.addMove(0, 2);
            x.undo();
            x.undo();
            dueAll(row(7, 3, 5, 1), x.positionOf(0, 2), x.positionOf(0, 3), x.positionOf(0, 4), x.positionOf(0, 5));
        });
    }

    private static void mark() {
        test(4, "position one below its range", () -> dueThrow(INDEX, x -> x.mark(-1, 0)));
        test(4, "position one above its range", () -> dueThrow(INDEX, x -> x.mark(8, 0)));
        test(4, "position far out of its range", () -> {
            dueThrow(INDEX, x -> x.mark(MIN, 0));
            dueThrow(INDEX, x -> x.mark(MAX, 0));
        });
        test(4, "position at both ends", () -> {
            BiddenMoves x = new BiddenMoves();
            dueAll(row(0, 0, 1, 2, 0), x.mark(0, 1), x.mark(7, 2), x.positionOf(0, 0), x.positionOf(7, 0),
                    x.positionOf(1, 0));
        });
        test(4, "mark one below its range", () -> dueThrow(ARGUMENT, x -> x.mark(0, -1)));
        test(4, "mark one above its range", () -> dueThrow(ARGUMENT, x -> x.mark(0, 3)));
        test(4, "mark far out of its range", () -> {
            dueThrow(ARGUMENT, x -> x.mark(0, MIN));
            dueThrow(ARGUMENT, x -> x.mark(0, MAX));
        });
        test(4, "no such position goes ahead of a mark out of range", () -> {
            dueThrow(INDEX, x -> x.mark(8, 3));
            dueThrow(INDEX, x -> x.mark(-1, -1));
        });
        test(4, "the mark 0 of a position without one", () -> {
            BiddenMoves x = board("3:01");
            dueAll(row(0, 0), x.mark(3, 0), x.positionOf(3, 0));
        });
        test(4, "the answer is the mark before, for each mark", () -> {
            BiddenMoves x = new BiddenMoves();
            dueAll(row(0, 1, 2, 2, 0, 2, 1, 1, 0), x.mark(3, 1), x.mark(3, 2), x.mark(3, 2), x.mark(3, 0),
                    x.mark(3, 2), x.mark(3, 1), x.mark(3, 1), x.mark(3, 0), x.positionOf(3, 0));
        });
        test(4, "1 is won for the player 0, 2 for the player 1", () -> {
            BiddenMoves x = board("0:1");
            x.mark(0, 1);
            dueAll(row(0, 1, 0), x.count(2), x.playerOf(0, 4), x.playerOf(1, 4));
            x.mark(0, 2);
            dueAll(row(1, 0, 1), x.count(2), x.playerOf(0, 4), x.playerOf(1, 4));
        });
        test(4, "the moves stay", () -> {
            BiddenMoves x = board("0:7351");
            x.mark(0, 1);
            dueAll(row(4, 7, 1), x.positionOf(0, 1), x.positionOf(0, 2), x.positionOf(0, 5));
        });
        test(4, "a mark ends the game at its position, without it the game goes on", () -> {
            BiddenMoves x = board("0:1;1:0");
            dueAll(row(0, 0, 1, 1, 0, 0), x.count(1), x.mark(0, 1), x.count(1), x.mark(0, 0), x.count(1),
                    x.mark(1, 2));
            due(0, x.count(1));
        });
        test(4, "a turn that is bought stays bought", () -> {
            BiddenMoves x = board("0:1;1:0");
            x.bid(0, 1);
            dueAll(row(0, 1, 2, 10), x.mark(0, 2), x.count(3), x.mark(0, 0), x.move(1));
        });
        test(4, "nothing else is changed", () -> {
            dueChanges("position7.0 player0.4", Cases::rich, x -> x.mark(7, 1));
            dueChanges("position1.0 player0.4 player1.4", Cases::rich, x -> x.mark(1, 2));
            dueChanges("position0.0 player1.4", Cases::strange, x -> x.mark(0, 0));
            dueChanges("position3.0 player0.4 count1 count2", Cases::strange, x -> x.mark(3, 1));
            dueChanges("", Cases::strange, x -> x.mark(0, 2));
        });
        test(4, "undoable", () -> dueUndone(x -> x.mark(0, 2)));
        test(4, "undoable, also if it changes nothing", () -> dueUndone(x -> x.mark(1, 1)));
    }

    private static void reverse() {
        test(5, "the marks 1 and 2 are exchanged, 0 stays", () -> {
            BiddenMoves x = board("0:A;1:B;2:0;7:A");
            x.reverse();
            dueAll(row(2, 1, 0, 2), x.positionOf(0, 0), x.positionOf(1, 0), x.positionOf(2, 0), x.positionOf(7, 0));
        });
        test(5, "the budgets are exchanged, and the answer is the new one of the player 0", () -> {
            BiddenMoves x = board("0:1", 11, 2, 0);
            dueAll(row(9, 9, 2, 11), x.reverse(), x.playerOf(0, 0), x.playerOf(1, 0), x.count(5));
        });
        test(5, "a budget of 0, and of all chips", () -> {
            BiddenMoves x = board("0:1", 20, 0, 0);
            dueAll(row(20, 0, 0, 20), x.reverse(), x.playerOf(1, 0), x.reverse(), x.playerOf(1, 0));
        });
        test(5, "no chips at all", () -> {
            BiddenMoves x = board("0:1", 0, 0, 0);
            dueAll(row(0, 0, 0), x.reverse(), x.playerOf(0, 0), x.playerOf(1, 0));
        });
        test(5, "the star goes over, and back", () -> {
            BiddenMoves x = new BiddenMoves();
            x.reverse();
            dueAll(row(1, 0, 1), x.count(4), x.playerOf(0, 1), x.playerOf(1, 1));
            x.reverse();
            dueAll(row(0, 1, 0), x.count(4), x.playerOf(0, 1), x.playerOf(1, 1));
        });
        test(5, "a turn bought by the player 0 goes over", () -> {
            BiddenMoves x = board("0:1");
            x.bid(1, 0);
            x.reverse();
            due(1, x.count(3));
        });
        test(5, "a turn bought by the player 1 goes over", () -> {
            BiddenMoves x = board("0:1");
            x.bid(0, 1);
            x.reverse();
            due(0, x.count(3));
        });
        test(5, "no turn that is bought stays none", () -> {
            BiddenMoves x = board("0:1");
            x.reverse();
            dueAll(row(-1, 2), x.count(3), x.move(1));
        });
        test(5, "what is counted so far stays with each", () -> {
            BiddenMoves x = rich();
            x.bid(0, 0);
            x.reverse();
            x.bid(0, 0);
            dueAll(row(1, 1, 2, 2), x.playerOf(0, 2), x.playerOf(1, 2), x.playerOf(0, 3), x.playerOf(1, 3));
            dueAll(row(2, 1, 3), x.count(6), x.count(7), x.count(8));
            BiddenMoves y = board("0:1");
            y.bid(3, 0);
            y.reverse();
            dueAll(row(1, 0, 3, 0), y.playerOf(0, 2), y.playerOf(1, 2), y.playerOf(0, 3), y.playerOf(1, 3));
        });
        test(5, "moves, the position and the settings stay", () -> {
            BiddenMoves x = rich();
            x.reverse();
            dueAll(row(0, 9, 5, 4, 4), x.count(0), x.setting(0), x.setting(1), x.positionOf(0, 1), x.positionOf(0, 5));
        });
        test(5, "twice is as before", () -> {
            BiddenMoves x = rich();
            x.reverse();
            x.reverse();
            dueLooks(looks(rich()), looks(x));
        });
        test(5, "nothing else is changed", () -> {
            String sides = " player0.0 player1.0 player0.1 player1.1 count3 count4";
            dueChanges("position1.0 position2.0" + sides, Cases::rich, x -> x.reverse());
            dueChanges("position0.0 position1.0 position2.0 player0.4 player1.4" + sides, Cases::strange,
                    x -> x.reverse());
        });
        test(5, "undoable", () -> dueUndone(x -> x.reverse()));
    }

    private static void set() {
        test(6, "setting one below its range", () -> dueThrow(INDEX, x -> x.set(-1, 0)));
        test(6, "setting one above its range", () -> dueThrow(INDEX, x -> x.set(2, 0)));
        test(6, "setting far out of its range", () -> {
            dueThrow(INDEX, x -> x.set(MIN, 0));
            dueThrow(INDEX, x -> x.set(MAX, 0));
        });
        test(6, "no such setting goes ahead of a value out of range", () -> {
            dueThrow(INDEX, x -> x.set(2, -1));
            dueThrow(INDEX, x -> x.set(-1, 21));
        });
        test(6, "chips one below their range", () -> dueThrow(ARGUMENT, x -> x.set(0, -1)));
        test(6, "chips one above their range", () -> dueThrow(ARGUMENT, x -> x.set(0, 21)));
        test(6, "chips far out of their range", () -> {
            dueThrow(ARGUMENT, x -> x.set(0, MIN));
            dueThrow(ARGUMENT, x -> x.set(0, MAX));
        });
        test(6, "0 chips", () -> {
            BiddenMoves x = rich();
            dueAll(row(9, 0, 0, 0, 0), x.set(0, 0), x.setting(0), x.count(5), x.playerOf(0, 0), x.playerOf(1, 0));
        });
        test(6, "20 chips", () -> {
            BiddenMoves x = rich();
            dueAll(row(9, 20, 20, 10, 10), x.set(0, 20), x.setting(0), x.count(5), x.playerOf(0, 0), x.playerOf(1, 0));
        });
        test(6, "turns one below their range", () -> dueThrow(ARGUMENT, x -> x.set(1, -1)));
        test(6, "turns one above their range", () -> dueThrow(ARGUMENT, x -> x.set(1, 13)));
        test(6, "turns far out of their range", () -> {
            dueThrow(ARGUMENT, x -> x.set(1, MIN));
            dueThrow(ARGUMENT, x -> x.set(1, MAX));
        });
        test(6, "0 turns", () -> {
            BiddenMoves x = rich();
            dueAll(row(5, 0, 9), x.set(1, 0), x.setting(1), x.setting(0));
        });
        test(6, "12 turns", () -> {
            BiddenMoves x = rich();
            dueAll(row(5, 12, 9), x.set(1, 12), x.setting(1), x.setting(0));
        });
        test(6, "the range of turns is not that of chips: 13 chips", () -> {
            BiddenMoves x = new BiddenMoves();
            dueAll(row(8, 13), x.set(0, 13), x.set(0, 0));
        });
        test(6, "an odd number of chips: the player 0 has half of them, rounded down", () -> {
            BiddenMoves x = new BiddenMoves();
            x.set(0, 19);
            dueAll(row(9, 10), x.playerOf(0, 0), x.playerOf(1, 0));
            x.set(0, 1);
            dueAll(row(0, 1), x.playerOf(0, 0), x.playerOf(1, 0));
        });
        test(6, "the same chips again: the budgets are as at first", () -> {
            BiddenMoves x = rich();
            dueAll(row(9, 4, 5), x.set(0, 9), x.playerOf(0, 0), x.playerOf(1, 0));
        });
        test(6, "the budgets stay with setting 1", () -> {
            BiddenMoves x = rich();
            x.set(1, 5);
            x.set(1, 11);
            dueAll(row(6, 3), x.playerOf(0, 0), x.playerOf(1, 0));
        });
        test(6, "the star stays, also with the player 1", () -> {
            BiddenMoves x = board("0:1", 8, 3, 1);
            x.set(0, 5);
            due(1, x.count(4));
            x.place(0, 3, 0);
            x.set(0, 5);
            due(0, x.count(4));
        });
        test(6, "a turn that is bought stays, with both settings", () -> {
            BiddenMoves x = board("0:1;1:0");
            x.bid(0, 3);
            x.set(0, 0);
            x.set(1, 0);
            dueAll(row(1, 10), x.count(3), x.move(1));
        });
        test(6, "what is counted so far stays, and so do the board and the position", () -> {
            BiddenMoves x = rich();
            x.set(0, 2);
            dueAll(row(0, 2, 1, 1, 9), x.count(0), x.count(6), x.count(7), x.count(8), x.count(9));
            dueAll(row(2, 2, 1), x.playerOf(0, 3), x.playerOf(1, 3), x.positionOf(1, 0));
        });
        test(6, "nothing else is changed", () -> {
            dueChanges("setting0 count5 player0.0 player1.0", Cases::rich, x -> x.set(0, 20));
            dueChanges("setting0 count5 player0.0 player1.0", Cases::strange, x -> x.set(0, 2));
            dueChanges("player0.0 player1.0", Cases::strange, x -> x.set(0, 9));
            dueChanges("setting1", Cases::rich, x -> x.set(1, 12));
            dueChanges("setting1", Cases::strange, x -> x.set(1, 0));
        });
        test(6, "undoable, with the budgets", () -> {
            dueUndone(x -> x.set(0, 20));
            dueUndone(x -> x.set(1, 12));
        });
        test(6, "undoable, also if it changes nothing", () -> dueUndone(x -> x.set(1, 5)));
    }

    public static void main(String[] args) {
        newObject();
        addMove();
        clearMoves();
        mark();
        reverse();
        set();
        end(1, 6);
    }
}
