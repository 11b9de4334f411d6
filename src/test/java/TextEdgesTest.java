import java.util.List;

/** The boundary cases that the document names for the promises 10 to 16: the buffer, texts, snapshots, undo. */
public final class TextEdgesTest extends Cases {
    private static final String EIGHT_MARKS = "0:A;1:A;2:A;3:A;4:A;5:A;6:A;7:A";
    /** No board as a text is longer: 55 characters. */
    private static final String LONGEST = "0:1234;1:2345;2:3456;3:4567;4:5670;5:6701;6:7012;7:0123";

    private static BiddenMoves typed(String text) {
        BiddenMoves x = new BiddenMoves();
        type(x, text);
        return x;
    }

    private static BiddenMoves full() {
        BiddenMoves x = rich();
        type(x, "A".repeat(60));
        return x;
    }

    /** But for the buffer the call changes nothing. */
    private static void dueBufferAlone(Call call) {
        dueSame(() -> typedInto(rich(), ""), x -> call.of(typedInto(x, "0:1")) + x.clearBuffer());
        dueSame(() -> typedInto(strange(), ""), x -> call.of(typedInto(x, "0:1")) + x.clearBuffer());
    }

    private static BiddenMoves typedInto(BiddenMoves x, String text) {
        type(x, text);
        return x;
    }

    private static void append() {
        test(10, "code one below its range", () -> dueThrow(ARGUMENT, x -> x.append(32)));
        test(10, "code one above its range", () -> dueThrow(ARGUMENT, x -> x.append(127)));
        test(10, "code far out of its range", () -> {
            dueThrow(ARGUMENT, x -> x.append(MIN));
            dueThrow(ARGUMENT, x -> x.append(MAX));
            dueThrow(ARGUMENT, x -> x.append(0));
            dueThrow(ARGUMENT, x -> x.append(-1));
            // not cut down to a character's bits
            dueThrow(ARGUMENT, x -> x.append(65536 + 65));
        });
        test(10, "code at the lower end", () -> {
            BiddenMoves x = new BiddenMoves();
            dueAll(row(1, 1), x.append(33), x.clearBuffer());
        });
        test(10, "code at the upper end", () -> {
            BiddenMoves x = new BiddenMoves();
            dueAll(row(1, 1), x.append(126), x.clearBuffer());
        });
        test(10, "the buffer gets the characters in their order", () -> {
            long[] read = {typed("!~").digest(), typed("~!").digest()};
            due(1, read[0] == read[1] ? 0 : 1);
            // the last value counts once, the one before it 31 times
            due((126 - 33) - 31 * (126 - 33), read[0] - read[1]);
        });
        test(10, "the answers up to 60 characters", () -> {
            BiddenMoves x = new BiddenMoves();
            for (int length = 1; length <= 60; length++) due(length, x.append(33 + length));
            due(60, x.clearBuffer());
        });
        test(10, "a 61st character", () -> dueThrow(STATE, TextEdgesTest::full, x -> x.append(65)));
        test(10, "a code out of range goes ahead of a full buffer", () -> {
            dueThrow(ARGUMENT, TextEdgesTest::full, x -> x.append(32));
            dueThrow(ARGUMENT, TextEdgesTest::full, x -> x.append(127));
        });
        test(10, "nothing else is changed", () -> dueBufferAlone(x -> x.append(65)));
        test(10, "not undoable: no state is saved", () -> {
            BiddenMoves x = board("0:1");
            dueAll(row(1, 1), x.append(65), x.count(10));
        });
        test(10, "undo leaves the buffer as it is", () -> {
            BiddenMoves x = board("0:1");
            x.mark(0, 1);
            x.append(65);
            dueAll(row(1, 2), x.undo(), x.append(66));
        });
    }

    private static void clearBuffer() {
        test(11, "an empty buffer", () -> due(0, new BiddenMoves().clearBuffer()));
        test(11, "a buffer of one character", () -> due(1, typed("~").clearBuffer()));
        test(11, "a buffer of 60 characters, which may be filled again", () -> {
            BiddenMoves x = full();
            dueAll(row(60, 0, 1), x.clearBuffer(), x.clearBuffer(), x.append(65));
        });
        test(11, "nothing is left of the text", () -> {
            BiddenMoves x = typed("0:1;1:A");
            x.clearBuffer();
            due(new BiddenMoves().digest(), x.digest());
            type(x, "0");
            due(1, x.firstError());
        });
        test(11, "nothing else is changed", () -> dueBufferAlone(x -> x.clearBuffer()));
        test(11, "not undoable: no state is saved, and undo does not bring the text back", () -> {
            BiddenMoves x = board("0:1");
            x.append(65);
            dueAll(row(1, 1, 0, 0), x.clearBuffer(), x.count(10), x.undo(), x.clearBuffer());
        });
    }

    /** Of all characters just these ones may follow; each other one is the first syntax error. */
    private static void dueNext(String text, String allowed) {
        for (char c = 33; c <= 126; c++) {
            int want = text.length() + (allowed.indexOf(c) >= 0 ? 1 : 0);
            int got = typed(text + c).firstError();
            if (got != want) {
                due(want, got);
                System.out.println("    for " + text + c);
            }
        }
    }

    private static void dueError(int want, String... texts) {
        for (String text : texts) due(want, typed(text).firstError());
    }

    private static void firstErrorWithinAPart() {
        test(12, "an empty buffer", () -> dueError(0, ""));
        test(12, "no error: the length", () -> {
            dueError(3, "0:1", "7:A", "7:B");
            dueError(11, "3:21;1:A;2:".substring(0, 11));
        });
        test(12, "a text that ends within a part is no error", () -> {
            dueError(1, "0", "7");
            dueError(2, "0:", "7:");
            dueError(4, "0:1;");
            dueError(5, "0:1;1");
            dueError(6, "0:1;1:");
        });
        test(12, "a part begins with the digit of a position, 0 to 7", () -> dueNext("", "01234567"));
        test(12, "behind it stands a colon", () -> {
            dueNext("0", ":");
            dueNext("7", ":");
        });
        test(12, "behind the colon stand A, B, or another position: no end, not its own", () -> {
            dueNext("0:", "AB1234567");
            dueNext("7:", "AB0123456");
            dueNext("3:", "AB0124567");
        });
        test(12, "behind A and B stands the end of the part", () -> {
            dueNext("0:A", ";");
            dueNext("0:B", ";");
        });
        test(12, "behind the first move stand others, not its own, not the same", () -> dueNext("0:3", "124567;"));
        test(12, "behind the second move", () -> dueNext("0:37", "12456;"));
        test(12, "behind the third move", () -> dueNext("0:371", "2456;"));
        test(12, "behind the fourth move stands the end of the part", () -> dueNext("0:3714", ";"));
    }

    private static void firstErrorBetweenParts() {
        test(12, "behind a semicolon stands a position without a part", () -> {
            dueNext("0:1;", "1234567");
            dueNext("7:A;", "0123456");
            dueNext("3:B;0:1;", "124567");
        });
        test(12, "a position that is named as a move has no part by that", () -> dueNext("0:1234;", "1234567"));
        test(12, "the moves of other parts do not count", () -> dueNext("0:12;3:", "AB0124567"));
        test(12, "behind the seventh part a semicolon may stand, and the eighth position", () -> {
            dueNext(EIGHT_MARKS.substring(0, 27), ";");
            dueNext(EIGHT_MARKS.substring(0, 28), "7");
            dueNext("1:0;2:0;3:0;4:0;5:0;6:0;7:0;", "0");
        });
        test(12, "within the eighth part all is as in others", () -> {
            dueNext(EIGHT_MARKS.substring(0, 29), ":");
            dueNext(EIGHT_MARKS.substring(0, 30), "AB0123456");
            dueNext(LONGEST.substring(0, 52), "123456");
        });
        test(12, "behind the eighth part nothing may stand, no semicolon either", () -> {
            dueNext(EIGHT_MARKS, "");
            dueNext(LONGEST, "");
        });
        test(12, "behind the moves of the eighth part more moves may stand, but no semicolon",
                () -> dueNext(LONGEST.substring(0, 54), "3456"));
        test(12, "the longest text", () -> dueError(55, LONGEST));
        test(12, "60 characters", () -> {
            dueError(55, LONGEST + ";0:12");
            dueError(0, "A".repeat(60));
            dueError(1, "0".repeat(60));
        });
        test(12, "the first error counts, whatever stands behind it", () -> {
            dueError(2, "0:0;1:1", "0:;1:A");
            dueError(3, "0:AA;8", "0:11");
            dueError(0, ";0:1", "x0:1");
        });
        test(12, "nothing is changed", () -> {
            dueSame(x -> x.firstError());
            dueSame(TextEdgesTest::full, x -> x.firstError());
        });
        test(12, "each call reads the whole buffer anew", () -> {
            BiddenMoves x = typed("0:1");
            dueAll(row(3, 3, 4, 3, 3, 3), x.firstError(), x.firstError(), x.append(49), x.firstError(), x.firstError(),
                    x.firstError());
        });
        test(12, "each call reads the whole buffer anew, with all positions in it", () -> {
            BiddenMoves x = typed(LONGEST);
            dueAll(row(55, 55, 8), x.firstError(), x.firstError(), x.load());
            type(x, EIGHT_MARKS);
            dueAll(row(31, 31, 8), x.firstError(), x.firstError(), x.load());
        });
    }

    private static void dueNoBoard(String... texts) {
        for (String text : texts) {
            dueThrow(ARGUMENT, () -> typedInto(rich(), text), x -> x.load());
            dueThrow(ARGUMENT, () -> typedInto(strange(), text), x -> x.load());
        }
    }

    private static BiddenMoves loaded(String text) {
        BiddenMoves x = rich();
        type(x, text);
        x.load();
        return x;
    }

    private static void loadThrows() {
        test(13, "an empty buffer tells no board", () -> dueNoBoard(""));
        test(13, "a text that ends within its first part tells no board", () -> dueNoBoard("0", "7", "0:", "7:"));
        test(13, "a text that ends within a later part tells no board",
                () -> dueNoBoard("0:1;1", "0:1;1:", "0:A;1", "0:A;1:", "0:1;1:A;7:"));
        test(13, "a text that ends with a semicolon tells no board",
                () -> dueNoBoard("0:1;", "0:A;", "0:1234;", EIGHT_MARKS.substring(0, 28)));
        test(13, "a syntax error in the first character", () -> dueNoBoard(";0:1", "8:1", "A", "~", "!0:1"));
        test(13, "a syntax error in the last character",
                () -> dueNoBoard("0:1:", "0:0", "0:C", "0:8", "0:11", "0:A1", "0:1A", "0:12345", "0:1;;", "0:1;0"));
        test(13, "a syntax error ahead of a good end",
                () -> dueNoBoard("0:0;1:A", "0:;1:A", "0:A;0:A", "x;1:A", "00:1"));
        test(13, "an eighth part and a semicolon", () -> dueNoBoard(EIGHT_MARKS + ";", LONGEST + ";"));
        test(13, "a ninth part", () -> dueNoBoard(EIGHT_MARKS + ";0:A"));
        test(13, "a buffer of 60 characters", () -> dueNoBoard("A".repeat(60), LONGEST + ";0:12"));
    }

    private static void loadTells() {
        test(13, "one part", () -> {
            BiddenMoves x = typed("7:A");
            dueAll(row(1, 1, 0), x.load(), x.positionOf(7, 0), x.count(9));
        });
        test(13, "eight parts, with marks", () -> {
            BiddenMoves x = typed(EIGHT_MARKS);
            dueAll(row(8, 8, 0, 0), x.load(), x.playerOf(0, 4), x.playerOf(1, 4), x.count(9));
        });
        test(13, "eight parts, the longest text", () -> {
            BiddenMoves x = typed(LONGEST);
            dueAll(row(8, 32, 0, 3, 1), x.load(), x.count(9), x.clearBuffer(), x.positionOf(7, 5), x.positionOf(0, 2));
        });
        test(13, "A is won for the player 0, B for the player 1", () -> {
            BiddenMoves x = loaded("0:A;1:B");
            dueAll(row(1, 2), x.positionOf(0, 0), x.positionOf(1, 0));
        });
        test(13, "1 move", () -> {
            BiddenMoves x = loaded("0:7");
            dueAll(row(1, 7, -1), x.positionOf(0, 1), x.positionOf(0, 2), x.positionOf(0, 3));
        });
        test(13, "4 moves, in this order", () -> {
            BiddenMoves x = loaded("0:7153");
            dueAll(row(4, 7, 1, 5, 3), x.positionOf(0, 1), x.positionOf(0, 2), x.positionOf(0, 3), x.positionOf(0, 4),
                    x.positionOf(0, 5));
        });
        test(13, "parts in any order", () -> {
            BiddenMoves x = typed("7:0;0:7;3:B");
            dueAll(row(3, 0, 7, 2), x.load(), x.positionOf(7, 2), x.positionOf(0, 2), x.positionOf(3, 0));
        });
        test(13, "all other positions have no moves and no mark", () -> {
            BiddenMoves x = loaded("7:0");
            for (int position = 0; position < 7; position++) {
                dueAll(row(0, 0, -1), x.positionOf(position, 0), x.positionOf(position, 1), x.positionOf(position, 2));
            }
            dueAll(row(0, 1), x.positionOf(7, 0), x.count(9));
        });
        test(13, "those with a mark have no moves, also if they had some", () -> {
            BiddenMoves x = loaded("0:A;3:B");
            dueAll(row(0, 0, 0), x.positionOf(0, 1), x.positionOf(3, 1), x.count(9));
        });
        test(13, "those with moves have no mark, also if they had one", () -> {
            BiddenMoves x = loaded("1:0;2:1");
            dueAll(row(0, 0, 1, 1), x.positionOf(1, 0), x.positionOf(2, 0), x.positionOf(1, 1), x.positionOf(2, 1));
        });
        test(13, "nothing is left of a longer text that was read before", () -> {
            BiddenMoves x = typed("0:123;1:A;2:B");
            x.firstError();
            type(x, "3:0");
            dueAll(row(1, 1, 0, 0), x.load(), x.count(9), x.positionOf(1, 0), x.positionOf(0, 1));
            for (String longer : new String[] {LONGEST, EIGHT_MARKS}) {
                type(x, longer);
                x.load();
                type(x, "3:0");
                dueAll(row(1, 1, 0, 0), x.load(), x.count(9), x.playerOf(0, 4), x.positionOf(7, 1));
            }
        });
    }

    private static void loadKeeps() {
        test(13, "the buffer is cleared", () -> {
            BiddenMoves x = typed("0:1");
            dueAll(row(1, 0), x.load(), x.clearBuffer());
        });
        test(13, "the game stays where it is, also where it is over then", () -> {
            BiddenMoves x = board("5:01");
            x.place(5, 4, 1);
            type(x, "0:1");
            dueAll(row(1, 5, 1), x.load(), x.count(0), x.count(1));
        });
        test(13, "a turn that is bought is forgotten", () -> {
            BiddenMoves x = loaded("0:1");
            dueAll(row(-1, 2), x.count(3), x.move(1));
        });
        test(13, "a turn bought by the player 1 is forgotten", () -> {
            BiddenMoves x = board("0:1");
            x.bid(0, 1);
            type(x, "0:1");
            dueAll(row(1, 1, -1), x.count(3), x.load(), x.count(3));
        });
        test(13, "budgets, the star, the settings and what is counted stay", () -> {
            BiddenMoves x = loaded("0:1");
            dueAll(row(6, 3, 0, 9, 5), x.playerOf(0, 0), x.playerOf(1, 0), x.count(4), x.setting(0), x.setting(1));
            dueAll(row(2, 1, 1, 2, 2), x.count(6), x.count(7), x.count(8), x.playerOf(0, 3), x.playerOf(1, 3));
        });
        test(13, "nothing else is changed", () -> {
            String first = "0:1234;1:A;2:B;3:01;4:0;5:02";
            dueChanges("count3", () -> typedInto(rich(), ""), x -> typedInto(x, first).load());
            // a mark and moves at once are not to be told by a text
            dueChanges("count3 count9 position0.1 position0.2 position0.3 position0.4 position0.5 position1.6"
                    + " position2.6 position3.6 position4.6", () -> typedInto(strange(), ""),
                    x -> typedInto(x, "0:B;1:A;2:B;3:01;4:0;5:02;6:3").load());
        });
        test(13, "undoable, but the text does not come back", () -> {
            BiddenMoves x = few();
            type(x, "0:1;1:0");
            dueAll(row(2, 2, 3, 2, 0), x.count(10), x.load(), x.count(10), x.undo(), x.clearBuffer());
            dueLooks(looks(few()), looks(x));
        });
        test(13, "undoable, also if it changes nothing", () -> {
            BiddenMoves x = board("0:1");
            type(x, "0:1");
            dueAll(row(1, 2, 1, 1), x.load(), x.count(10), x.undo(), x.count(9));
        });
    }

    /** Both slots are filled, and so the digest must stay. */
    private static void dueSlotAlone(int slot, BiddenMoves x, BiddenMoves same) {
        List<Long> then = looks(x);
        x.keep(slot);
        due(same.digest(), x.digest());
        while (same.count(10) > 0) {
            due(same.undo(), x.undo());
            due(same.digest(), x.digest());
        }
        due(same.goBack(1 - slot), x.goBack(1 - slot));
        due(same.digest(), x.digest());
        x.goBack(slot);
        dueLooks(then, looks(x));
    }

    private static void keep() {
        test(14, "slot one below its range", () -> dueThrow(ARGUMENT, x -> x.keep(-1)));
        test(14, "slot one above its range", () -> dueThrow(ARGUMENT, x -> x.keep(2)));
        test(14, "slot far out of its range", () -> {
            dueThrow(ARGUMENT, x -> x.keep(MIN));
            dueThrow(ARGUMENT, x -> x.keep(MAX));
        });
        test(14, "the slot 0 alone", () -> {
            BiddenMoves x = new BiddenMoves();
            dueAll(row(0, 0), x.keep(0), x.goBack(0));
            dueThrow(STATE, () -> {
                BiddenMoves y = new BiddenMoves();
                y.keep(0);
                return y;
            }, y -> y.goBack(1));
        });
        test(14, "the slot 1 alone", () -> {
            BiddenMoves x = new BiddenMoves();
            dueAll(row(0, 0), x.keep(1), x.goBack(1));
            dueThrow(STATE, () -> {
                BiddenMoves y = new BiddenMoves();
                y.keep(1);
                return y;
            }, y -> y.goBack(0));
        });
        test(14, "the answer is the position of the game, 0 and 7", () -> {
            BiddenMoves x = new BiddenMoves();
            dueAll(row(0, 1, 7), x.keep(0), x.place(7, 4, 0), x.keep(0));
        });
        test(14, "a snapshot is replaced", () -> {
            BiddenMoves x = board("0:1;1:0;2:0");
            x.keep(0);
            x.place(1, 3, 1);
            x.keep(0);
            x.place(2, 8, 0);
            dueAll(row(1, 3, 1), x.goBack(0), x.playerOf(0, 0), x.count(4));
        });
        test(14, "the two slots are two", () -> {
            BiddenMoves x = board("0:1;1:0;2:0");
            x.keep(0);
            x.place(1, 3, 1);
            x.keep(1);
            x.place(2, 8, 0);
            dueAll(row(0, 1, 0), x.goBack(0), x.goBack(1), x.goBack(0));
        });
        test(14, "what comes behind it does not change the snapshot", () -> {
            BiddenMoves x = rich();
            x.keep(0);
            List<Long> then = looks(x);
            x.clearMoves(0);
            x.addMove(0, 7);
            x.mark(1, 2);
            x.set(0, 20);
            x.set(1, 0);
            x.place(5, 1, 1);
            x.bid(1, 2);
            x.move(9);
            x.goBack(0);
            dueLooks(then, looks(x));
        });
        test(14, "nothing else is changed, and no state is saved: it is not undoable", () -> {
            BiddenMoves x = board("0:1");
            x.append(65);
            List<Long> before = looks(x);
            dueAll(row(0, 1, 1), x.keep(0), x.count(10), x.clearBuffer());
            dueLooks(before, looks(x));
        });
        test(14, "nothing else is changed: neither the saved states nor the other slot", () -> {
            for (int slot = 0; slot < 2; slot++) {
                dueSlotAlone(slot, rich(), rich());
                dueSlotAlone(slot, strange(), strange());
            }
        });
        test(14, "undo leaves the snapshot as it is", () -> {
            BiddenMoves x = board("0:1;1:0");
            x.place(1, 3, 1);
            x.keep(0);
            dueAll(row(1, 0, 1, 3), x.undo(), x.count(0), x.goBack(0), x.playerOf(0, 0));
        });
        test(14, "saved states are no part of a snapshot", () -> {
            BiddenMoves x = board("0:1");
            x.keep(0);
            x.mark(0, 1);
            x.mark(0, 2);
            dueAll(row(3, 0, 4), x.count(10), x.goBack(0), x.count(10));
        });
    }

    private static void goBack() {
        test(15, "slot one below its range", () -> dueThrow(ARGUMENT, x -> x.goBack(-1)));
        test(15, "slot one above its range", () -> dueThrow(ARGUMENT, x -> x.goBack(2)));
        test(15, "slot far out of its range", () -> {
            dueThrow(ARGUMENT, x -> x.goBack(MIN));
            dueThrow(ARGUMENT, x -> x.goBack(MAX));
        });
        test(15, "slot out of range, without any snapshot", () -> {
            dueThrow(ARGUMENT, BiddenMoves::new, x -> x.goBack(-1));
            dueThrow(ARGUMENT, BiddenMoves::new, x -> x.goBack(2));
        });
        test(15, "no snapshot", () -> {
            dueThrow(STATE, BiddenMoves::new, x -> x.goBack(0));
            dueThrow(STATE, BiddenMoves::new, x -> x.goBack(1));
            // few() has one in the slot 1 alone
            dueThrow(STATE, Cases::few, x -> x.goBack(0));
        });
        test(15, "the snapshot stays, and what comes behind it does not change it", () -> {
            BiddenMoves x = rich();
            dueAll(row(3, 8), x.goBack(1), x.playerOf(0, 0));
            List<Long> then = looks(x);
            for (int time = 0; time < 2; time++) {
                x.clearMoves(3);
                x.mark(7, 1);
                x.set(0, 3);
                x.place(0, 0, 0);
                x.bid(0, 0);
                due(3, x.goBack(1));
                dueLooks(then, looks(x));
            }
        });
        test(15, "all goes back: board, settings, budgets, star, bought turn, counts", () -> {
            BiddenMoves x = rich();
            x.goBack(1);
            dueAll(row(3, 0, -1, 1, 0, 9, 1, 1, 1, 9), x.count(0), x.count(1), x.count(2), x.count(3), x.count(4),
                    x.count(5), x.count(6), x.count(7), x.count(8), x.count(9));
            x.goBack(0);
            dueAll(row(0, 0, -1, -1, 0, 9, 0, 0, 0, 9), x.count(0), x.count(1), x.count(2), x.count(3), x.count(4),
                    x.count(5), x.count(6), x.count(7), x.count(8), x.count(9));
            dueAll(row(4, 5, 5, 0, 0), x.playerOf(0, 0), x.playerOf(1, 0), x.setting(1), x.playerOf(0, 3),
                    x.playerOf(1, 3));
        });
        test(15, "the settings go back", () -> {
            BiddenMoves x = board("0:1");
            x.keep(0);
            x.set(0, 20);
            x.set(1, 12);
            x.goBack(0);
            dueAll(row(8, 6, 8), x.setting(0), x.setting(1), x.count(5));
        });
        test(15, "the buffer stays", () -> {
            BiddenMoves x = few();
            dueAll(row(0, 6), x.goBack(1), x.clearBuffer());
        });
        test(15, "a snapshot of an empty board", () -> {
            BiddenMoves x = new BiddenMoves();
            x.keep(1);
            type(x, LONGEST);
            x.load();
            dueAll(row(0, 0, 1), x.goBack(1), x.count(9), x.count(1));
        });
        test(15, "nothing else is changed", () -> {
            dueChanges("count0 count3 count6 player0.0 player1.0 player0.2 player0.3", Cases::rich, x -> x.goBack(1));
            dueChanges("count3 count6 player0.0 player1.0 player1.2 player1.3", Cases::strange, x -> x.goBack(1));
        });
        test(15, "undoable", () -> dueUndone(x -> x.goBack(1)));
        test(15, "undoable, also if it changes nothing", () -> {
            BiddenMoves x = board("0:1");
            x.keep(0);
            dueAll(row(0, 2, 0, 3), x.goBack(0), x.count(10), x.goBack(0), x.count(10));
        });
    }

    private static BiddenMoves withoutSavedStates(BiddenMoves x) {
        for (int i = 0; i < 6; i++) x.reverse();
        for (int i = 0; i < 6; i++) x.undo();
        return x;
    }

    private static void undo() {
        test(16, "no saved state", () -> dueThrow(STATE, BiddenMoves::new, x -> x.undo()));
        test(16, "no saved state any more", () -> dueThrow(STATE, () -> {
            BiddenMoves x = board("0:1");
            x.undo();
            return x;
        }, x -> x.undo()));
        test(16, "no saved state any more, though much has happened", () -> {
            dueThrow(STATE, () -> withoutSavedStates(rich()), x -> x.undo());
            dueThrow(STATE, () -> withoutSavedStates(strange()), x -> x.undo());
        });
        test(16, "one saved state", () -> {
            BiddenMoves x = board("0:1");
            dueAll(row(1, 0, 0, 0), x.count(10), x.undo(), x.count(10), x.count(9));
        });
        test(16, "six saved states, all of them brought back", () -> {
            BiddenMoves x = new BiddenMoves();
            for (int turns = 0; turns < 6; turns++) x.set(1, turns);
            due(6, x.count(10));
            for (int left = 5; left > 0; left--) dueAll(row(left, left - 1), x.undo(), x.setting(1));
            dueAll(row(0, 6, 0), x.undo(), x.setting(1), x.count(10));
        });
        test(16, "a seventh saved state: the oldest one is dropped", () -> {
            dueThrow(STATE, () -> {
                BiddenMoves x = new BiddenMoves();
                for (int turns = 0; turns < 7; turns++) x.set(1, turns);
                due(6, x.count(10));
                for (int left = 5; left >= 0; left--) dueAll(row(left, left), x.undo(), x.setting(1));
                return x;
            }, x -> x.undo());
        });
        test(16, "many saved states, and states saved in between", () -> {
            BiddenMoves x = new BiddenMoves();
            for (int turns = 0; turns <= 12; turns++) x.set(1, turns);
            dueAll(row(5, 11, 4, 10), x.undo(), x.setting(1), x.undo(), x.setting(1));
            x.set(1, 3);
            dueAll(row(5, 4, 10), x.count(10), x.undo(), x.setting(1));
            for (int turns = 0; turns < 4; turns++) x.set(1, turns);
            due(6, x.count(10));
            dueAll(row(5, 4, 3, 2), x.undo(), x.undo(), x.undo(), x.undo());
            dueAll(row(10, 1, 9, 0, 8), x.setting(1), x.undo(), x.setting(1), x.undo(), x.setting(1));
        });
        test(16, "undo itself saves nothing", () -> {
            BiddenMoves x = board("0:1");
            x.set(1, 1);
            x.set(1, 2);
            dueAll(row(2, 1, 1, 6), x.undo(), x.setting(1), x.undo(), x.setting(1));
        });
        test(16, "each undoable call saves a state, also if it is refused or changes nothing", () -> {
            Call[] calls = {y -> y.addMove(5, 0), y -> y.clearMoves(0), y -> y.clearMoves(7), y -> y.mark(0, 1),
                y -> y.mark(0, 0), y -> y.reverse(), y -> y.set(0, 20), y -> y.set(1, 6), y -> y.place(1, 0, 1),
                y -> y.bid(0, 0), y -> y.move(1), y -> y.move(7), y -> y.load(), y -> y.goBack(1)};
            for (Call call : calls) {
                BiddenMoves x = board("0:1234");
                x.keep(1);
                x.bid(2, 1);
                type(x, "0:1");
                call.of(x);
                due(3, x.count(10));
            }
        });
        test(16, "the other calls save none", () -> {
            Call[] calls = {y -> y.append(65), y -> y.clearBuffer(), y -> y.firstError(), y -> y.keep(0), y -> y.keep(1),
                y -> y.positionOf(0, 0), y -> y.playerOf(0, 5), y -> y.count(10), y -> y.setting(0),
                y -> y.force(0, 0, 0, 0, 12), y -> y.threshold(0, 0, 0, 1), y -> y.advice(0), y -> y.refuted(0, 0),
                y -> y.bestMove(0, 0), y -> y.winIn(0), y -> (long) y.forcedShare(), y -> y.digest()};
            BiddenMoves x = few();
            for (Call call : calls) {
                call.of(x);
                due(2, x.count(10));
            }
        });
        test(16, "a call that throws saves none", () -> {
            BiddenMoves x = few();
            Call[] calls = {y -> y.addMove(0, 1), y -> y.clearMoves(8), y -> y.mark(0, 3), y -> y.set(0, 21),
                y -> y.place(0, 9, 0), y -> y.load(), y -> y.goBack(0)};
            for (Call call : calls) {
                boolean threw = false;
                try {
                    call.of(x);
                } catch (IndexOutOfBoundsException | IllegalArgumentException | IllegalStateException e) {
                    threw = true;
                }
                due(1, threw ? 1 : 0);
                due(2, x.count(10));
            }
        });
        test(16, "what is counted so far goes back", () -> {
            BiddenMoves x = rich();
            dueAll(row(2, 1, 1, 2, 2), x.count(6), x.count(7), x.count(8), x.playerOf(0, 3), x.playerOf(1, 3));
            x.undo();
            dueAll(row(1, 1, 1, 0, 2), x.count(6), x.count(7), x.count(8), x.playerOf(0, 3), x.playerOf(1, 3));
            x.undo();
            x.undo();
            dueAll(row(0, 0, 1, 0, 0), x.count(6), x.count(7), x.count(8), x.playerOf(0, 3), x.playerOf(1, 3));
            x.undo();
            dueAll(row(0, 0, 0), x.count(6), x.count(7), x.count(8));
        });
        test(16, "all else goes back too: board, settings, budgets, star, position, bought turn", () -> {
            BiddenMoves x = rich();
            List<Long> before = looks(x);
            x.clearMoves(0);
            x.addMove(0, 6);
            x.mark(4, 2);
            x.set(0, 20);
            x.set(1, 0);
            x.place(5, 3, 1);
            for (int left = 5; left >= 0; left--) due(left, x.undo());
            dueLooks(before, looks(x));
        });
        test(16, "nothing else is changed", () -> {
            dueChanges("count3 count6 player0.0 player1.0 player0.2 player0.3", Cases::rich, x -> x.undo());
            dueChanges("count3 count6 player0.0 player1.0 player1.2 player1.3", Cases::strange, x -> x.undo());
        });
        test(16, "the buffer and the slots stay as they are", () -> {
            BiddenMoves x = board("0:1");
            x.set(1, 3);
            x.keep(0);
            type(x, "0:A");
            x.undo();
            x.undo();
            dueAll(row(0, 3, 1, 3), x.goBack(0), x.setting(1), x.count(9), x.clearBuffer());
        });
        test(16, "what can be forced goes back with the board", () -> {
            BiddenMoves x = board(FORK);
            dueAll(row(4, 2), x.threshold(0, 0, 0, 0), x.mark(2, 1));
            dueAll(row(0, 0), x.threshold(0, 0, 0, 0), x.threshold(0, 0, 0, 1));
            x.undo();
            dueAll(row(4, 4), x.threshold(0, 0, 0, 0), x.threshold(0, 0, 0, 1));
        });
    }

    public static void main(String[] args) {
        append();
        clearBuffer();
        firstErrorWithinAPart();
        firstErrorBetweenParts();
        loadThrows();
        loadTells();
        loadKeeps();
        keep();
        goBack();
        undo();
        end(10, 16);
    }
}
