/** Section 3, what is seen, the book, draws, undoing, images: without marks, with one, with forty, at their bounds. */
public final class JudgedWordsTest {
    private static final long ROWS_OF_4 = 0x0404_0404_0404_0404L;

    public static void main(String[] args) {
        sixSeenAtMost();
        seenFromTheHandAsItWas();
        couldBe();
        ask();
        askOfForty();
        twentyInTheBook();
        wrong();
        wrongOfNoMore();
        theSeed();
        theDraw();
        drawnRows();
        drawnBit();
        drawnNothing();
        putByDraws();
        undoneDeeds();
        undoneSinceTheImage();
        twentyUndoneAtMost();
        undoingWrapsAround();
        undoneIsAsAhead();
        images();
        Check.end();
    }

    private static void sixSeenAtMost() {
        Doc.section(3, "SEEN (6 at most):");
        NearMarks none = new NearMarks();
        for (int n = 1; n <= 6; n++) {
            Check.due("see(" + n + ") of none", none.see(n), n);
        }
        Check.due("see(7) of none", none.see(7), NearMarks.FULL);
        Check.due("told(10)", none.told(10), 6);
        // The sixth counts, the seventh does not.
        NearMarks one = Make.with(0x0L);
        for (int n = 0; n < 5; n++) {
            one.see(0);
        }
        Check.due("told(11), five right", one.told(11), 1);
        Check.due("see(0)", one.see(0), 6);
        Check.due("see(1)", one.see(1), NearMarks.FULL);
        Check.due("told(11), the wrong one is refused", one.told(11), 1);
        one.tear();
        for (int n = 0; n < 5; n++) {
            one.see(0);
        }
        Check.due("see(1)", one.see(1), 6);
        Check.due("told(11), the sixth wrong", one.told(11), 0);
    }

    private static void seenFromTheHandAsItWas() {
        Doc.section(3, "an unknown MARK of THE STORE is APART from the mark in hand, as it was then, by a number.");
        NearMarks x = Make.with(0x1L, 0x3L, -1L);
        x.see(64);
        Check.due("told(12), 64 from 0", x.told(12), 2);
        x.flip(63);
        Check.due("told(12) when another is in hand", x.told(12), 2);
        x.hold(0);
        x.see(63);
        Check.due("told(11) of both", x.told(11), 1);
        x.hold(2);
        x.undo(2);
        Check.due("told(12) when the hand is undone", x.told(12), 2);
        x.take(2);
        Check.due("told(11) when it is taken", x.told(11), 0);
        x.undo(1);
        Check.due("told(11) when it is there again", x.told(11), 1);
    }

    private static void couldBe() {
        Doc.section(3, "COULD BE: MARKS by which all that is SEEN is so: how many; the least; NONE.");
        NearMarks none = new NearMarks();
        Check.due("told(11) of none", none.told(11), 0);
        Check.due("told(12) of none", none.told(12), NearMarks.NONE);
        none.see(0);
        Check.due("told(11) of none, seen", none.told(11), 0);
        NearMarks one = Make.with(-1L);
        Check.due("told(11) of one, nothing seen", one.told(11), 1);
        Check.due("told(12) of one, nothing seen", one.told(12), 0);
        one.see(63);
        Check.due("told(11) of one, seen otherwise", one.told(11), 0);
        Check.due("told(12) of one, seen otherwise", one.told(12), NearMarks.NONE);
        NearMarks full = Make.fullOfBits();
        Check.due("told(11) of forty", full.told(11), 40);
        full.see(1);
        Check.due("told(11) of forty, all 1 from 0", full.told(11), 40);
        full.flip(39);
        full.see(0);
        Check.due("told(11), the last alone", full.told(11), 1);
        Check.due("told(12), the last alone", full.told(12), 39);
        full.tear();
        full.see(2);
        Check.due("told(11), all but the last", full.told(11), 39);
        Check.due("told(12), all but the last", full.told(12), 0);
    }

    private static void ask() {
        Doc.section(3, "ASK: the MARK by which, were it the mark in hand, these are told apart best:");
        // From 7 and from 0 all four are unlike far, from 1 and from 3 two are alike.
        Check.due("told(13), by 7 and by 0 all are told apart", Make.with(0x1L, 0x3L, 0x7L, 0x0L).told(13), 2);
        Doc.section(3, "the greatest part with one number is least; of like ones the least;");
        // Marks 1 to 4 are of one bit; 0 is 1 from each, any of them leaves three.
        Check.due("told(13) of one-bit marks", Make.with(0x0L, 0x1L, 0x2L, 0x4L, 0x8L).told(13), 1);
        Check.due("told(13) of two like ones", Make.with(0x0L, -1L).told(13), 0);
        Doc.section(3, "NONE: none parts them.");
        Check.due("told(13) of none", new NearMarks().told(13), NearMarks.NONE);
        Check.due("told(13) of one", Make.with(-1L).told(13), NearMarks.NONE);
        NearMarks x = Make.with(0x0L, 0x1L, 0x3L);
        x.see(1);
        Check.due("told(13), one alone could be", x.told(13), NearMarks.NONE);
        x.see(2);
        Check.due("told(13), none could be", x.told(13), NearMarks.NONE);
    }

    private static void askOfForty() {
        Doc.section(3, "these are told apart best: the greatest part with one number is least;");
        NearMarks full = Make.fullOfBits();
        Check.due("told(13) of forty like ones", full.told(13), 0);
        // A chain of forty: from its ends each is another number apart, from elsewhere two are alike.
        NearMarks chain = new NearMarks();
        for (int k = 0; k < 40; k++) {
            Make.put(chain, (1L << (k + 20) % 40) - 1, 0);
        }
        Check.due("told(13) of a chain: marks 19 and 20 are its ends", chain.told(13), 19);
        chain.take(19);
        Check.due("told(13) of a chain: mark 18 is the end then", chain.told(13), 18);
        // From 1 they are apart by 1, 63, 0, 64, 2; from 0 and from all ones two are alike.
        Check.due("told(13) with 64 apart", Make.with(0x0L, -1L, 0x1L, -2L, 0x2L).told(13), 2);
    }

    private static void twentyInTheBook() {
        Doc.section(3, "THE BOOK (20 at most) tells how far two MARKS are APART:");
        NearMarks x = Make.fullOfBits();
        for (int n = 0; n < 19; n++) {
            Check.due("write the " + (n + 1) + "th", x.write(39 - n, n, 2), n + 1);
        }
        Check.due("told(15) of nineteen right ones", x.told(15), NearMarks.NONE);
        Check.due("write the 20th", x.write(0, 39, 3), 20);
        Check.due("told(15), the last is wrong", x.told(15), 19);
        Check.due("write the 21st", x.write(0, 39, 2), NearMarks.FULL);
        Check.due("told(14)", x.told(14), 20);
        Check.due("told(15) still", x.told(15), 19);
    }

    private static void wrong() {
        Doc.section(3, "WRONG: the first that is otherwise now");
        Check.due("told(15) of none", new NearMarks().told(15), NearMarks.NONE);
        Check.due("told(15) of one, no book", Make.with(-1L).told(15), NearMarks.NONE);
        NearMarks x = Make.with(0x0L, -1L, 0x1L);
        x.write(0, 1, 64);
        Check.due("told(15), 64 is right", x.told(15), NearMarks.NONE);
        x.write(1, 2, 64);
        Check.due("told(15), 63 would be right", x.told(15), 1);
        x.write(0, 2, 0);
        Check.due("told(15), the first of two", x.told(15), 1);
        x.kind(1, 1);
        x.flip(5);
        x.cut(1L);
        Check.due("told(15) by kind, hand, cut", x.told(15), 1);
        Doc.section(3, "NONE.");
        x.tear();
        Check.due("told(15) of a torn book", x.told(15), NearMarks.NONE);
    }

    private static void wrongOfNoMore() {
        Doc.section(3, "(a MARK that there is no more: it is, too);");
        NearMarks x = Make.fullOfBits();
        x.write(0, 1, 2);
        x.write(38, 39, 2);
        Check.due("told(15)", x.told(15), NearMarks.NONE);
        x.take(39);
        Check.due("told(15), the other of the second is no more", x.told(15), 1);
        x.take(38);
        Check.due("told(15), both are no more", x.told(15), 1);
        x.undo(2);
        Check.due("told(15), there again", x.told(15), NearMarks.NONE);
        NearMarks y = Make.with(0x0L, 0x1L);
        y.write(1, 0, 1);
        y.take(1);
        Check.due("told(15), the one is no more", y.told(15), 0);
        y.take(0);
        Check.due("told(15), no marks", y.told(15), 0);
        Check.due("told(14) still", y.told(14), 1);
    }

    private static void theSeed() {
        Doc.section(3, "BY DRAWS: THE SEED (0 at first: each DRAW it becomes it times 1103515245 and 12345,");
        NearMarks x = new NearMarks();
        Check.due("seed(0) at first", x.seed(0), 0);
        x.drift(1);
        // 0, then 12345, 1406932606, 654583775: three draws.
        Check.due("seed after three draws", x.seed(0), 654583775);
        Doc.section(3, "left over by 2 to the 31;");
        // 2147483647 becomes 12345 less 1103515245 and 2 to the 31: 1043980748, whose draw of 4 is 1; then one more.
        x.seed(Integer.MAX_VALUE);
        x.drift(1);
        long second = (1043980748L * 1103515245L + 12345L) % 2147483648L;
        Check.due("seed after two draws from the greatest", x.seed(0), second);
        NearMarks y = new NearMarks();
        for (int n = 0; n < 20; n++) {
            y.drift(20);
            int seed = y.seed(0);
            Check.holds("the seed " + seed + " is not below 0", seed >= 0);
            y.seed(seed);
        }
    }

    private static void theDraw() {
        Doc.section(3, "the DRAW of n is it / 65536, left over by n):");
        // From 0 the draws are of 12345 .. 551188310; in all a row of 4, bit 42, nothing, bit 29, bit 26.
        NearMarks x = new NearMarks();
        Doc.section(3, "n times: a DRAW of 4:");
        long[] hands = {
            ROWS_OF_4, ROWS_OF_4 ^ 1L << 42, ROWS_OF_4 ^ 1L << 42,
            ROWS_OF_4 ^ 1L << 42 ^ 1L << 29, ROWS_OF_4 ^ 1L << 42 ^ 1L << 29 ^ 1L << 26,
        };
        int[] marks = {1, 2, 2, 3, 4};
        for (int time = 0; time < hands.length; time++) {
            Check.due("drift(1) the " + (time + 1) + "th time", x.drift(1), marks[time]);
            Check.due("hand() the " + (time + 1) + "th time", x.hand(), hands[time]);
        }
        Check.due("the seed then", x.seed(0), 551188310);
        NearMarks five = new NearMarks();
        Check.due("drift(5)", five.drift(5), 4);
        Check.due("hand() of drift(5)", five.hand(), hands[4]);
    }

    /** The seed from which the next draw of 4 is this one, the least of all. */
    private static int seedFor(int choice) {
        for (int seed = 0; seed < 1000; seed++) {
            if ((seed * 1103515245L + 12345L) % 2147483648L / 65536 % 4 == choice) {
                return seed;
            }
        }
        return -1;
    }

    private static long after(long seed, int draws) {
        long last = seed;
        for (int n = 0; n < draws; n++) {
            last = (last * 1103515245L + 12345L) % 2147483648L;
        }
        return last;
    }

    private static void drawnRows() {
        Doc.section(3, "on 0 a DRAW of 64 and of 256 more: all ROWS of the mark in hand become that (the first is left over);");
        NearMarks x = new NearMarks();
        int seed = seedFor(0);
        x.seed(seed);
        Make.hand(x, -1L);
        x.drift(1);
        Check.due("hand()", x.hand(), after(seed, 3) / 65536 % 256 * 0x0101_0101_0101_0101L);
        Check.due("three draws", x.seed(0), after(seed, 3));
    }

    private static void drawnBit() {
        Doc.section(3, "on 1, 2 a DRAW of 64: FLIPPED;");
        for (int choice = 1; choice <= 2; choice++) {
            int seed = seedFor(choice);
            for (long hand : new long[] {0L, -1L}) {
                NearMarks x = new NearMarks();
                Make.hand(x, hand);
                x.seed(seed);
                x.drift(1);
                Check.due("hand() on " + choice, x.hand(), hand ^ 1L << after(seed, 2) / 65536 % 64);
                Check.due("two draws on " + choice, x.seed(0), after(seed, 2));
            }
        }
    }

    private static void drawnNothing() {
        Doc.section(3, "on 3 nothing;");
        NearMarks x = new NearMarks();
        x.flip(11);
        x.seed(seedFor(3));
        Check.due("drift(1) on 3: it is put", x.drift(1), 1);
        Check.due("hand()", x.hand(), 1L << 11);
        Check.due("markAt(0)", x.markAt(0), 1L << 11);
        Check.due("one draw", x.seed(seedFor(3)), after(seedFor(3), 1));
        Check.due("drift(1) on 3 again: a like one", x.drift(1), 1);
    }

    private static void putByDraws() {
        Doc.section(3, "then it is PUT (KEPT), if it is unlike all and there is room.");
        NearMarks x = new NearMarks();
        x.put(1);
        x.seed(seedFor(3));
        Check.due("drift(1), like one to SHUN", x.drift(1), 1);
        Check.due("mark(0, 0) stays", x.mark(0, 0), 1);
        x.flip(0);
        x.seed(seedFor(3));
        Check.due("drift(1), unlike", x.drift(1), 2);
        Check.due("mark(1, 0): KEPT", x.mark(1, 0), 0);
        NearMarks full = Make.fullOfBits();
        full.take(39);
        full.seed(seedFor(3));
        Check.due("drift(1), the last room", full.drift(1), 40);
        Check.due("markAt(39)", full.markAt(39), 0L);
        full.flip(63);
        full.seed(seedFor(3));
        Check.due("drift(1), no room", full.drift(1), 40);
        Check.due("markAt(39) stays", full.markAt(39), 0L);
        Check.due("hand() without room", full.hand(), Long.MIN_VALUE);
        full.seed(seedFor(1));
        full.drift(1);
        Check.holds("the hand is flipped without room, too", full.hand() != Long.MIN_VALUE);
    }

    private static void undoneDeeds() {
        Doc.section(3, "UNDONE: the latest deeds (type(), flip(), turn(), mirror(), hold(), put(), cut(), take(), kind(),");
        NearMarks x = Make.with(0x0L, 0x6L);
        x.keep(0);
        int deeds = 0;
        x.type(3, 9);
        Check.due("told(16) after type()", x.told(16), ++deeds);
        x.flip(1);
        Check.due("told(16) after flip()", x.told(16), ++deeds);
        x.turn();
        Check.due("told(16) after turn()", x.told(16), ++deeds);
        x.mirror();
        Check.due("told(16) after mirror()", x.told(16), ++deeds);
        x.put(2);
        Check.due("told(16) after put()", x.told(16), ++deeds);
        x.hold(1);
        Check.due("told(16) after hold()", x.told(16), ++deeds);
        x.cut(1L);
        Check.due("told(16) after cut()", x.told(16), ++deeds);
        x.kind(2, 1);
        Check.due("told(16) after kind()", x.told(16), ++deeds);
        x.take(0);
        Check.due("told(16) after take()", x.told(16), ++deeds);
        Doc.section(3, "each of the times BY DRAWS)");
        x.drift(3);
        Check.due("told(16) after drift(3)", x.told(16), deeds + 3);
        x.undo(1);
        Check.due("told(16) after undo(1)", x.told(16), deeds + 2);
        x.see(1);
        x.write(0, 1, 1);
        x.tear();
        x.seed(8);
        x.told(4);
        Check.due("told(16): what is no deed", x.told(16), deeds + 2);
        x.undo(deeds + 2);
        Check.due("told(0) when all is undone", x.told(0), 2);
        Check.due("hand() when all is undone", x.hand(), 0L);
        Check.due("told(1) when all is undone", x.told(1), 4);
        Check.due("undo(1) of none", x.undo(1), NearMarks.NOT);
    }

    private static void undoneSinceTheImage() {
        Doc.section(3, "since the IMAGE");
        NearMarks x = new NearMarks();
        x.flip(0);
        x.flip(1);
        x.keep(1);
        x.flip(2);
        Check.due("undo(2), over the image", x.undo(2), NearMarks.NOT);
        Check.due("undo(1)", x.undo(1), 0);
        Check.due("hand()", x.hand(), 3L);
        x.flip(3);
        x.goBack(1);
        Check.due("undo(1), over going back", x.undo(1), NearMarks.NOT);
        x.flip(4);
        x.keep(2);
        x.goBack(0);
        Check.due("told(16): refused ones forget nothing", x.told(16), 1);
    }

    private static void twentyUndoneAtMost() {
        Doc.section(3, "(20 at most are kept):");
        NearMarks x = new NearMarks();
        for (int n = 0; n < 21; n++) {
            x.flip(n);
        }
        Check.due("told(16) of 21", x.told(16), 20);
        Check.due("undo(21)", x.undo(21), NearMarks.OUTSIDE);
        Check.due("undo(20)", x.undo(20), 0);
        Check.due("hand(): the first stays", x.hand(), 1L);
        Check.due("told(16)", x.told(16), 0);
        Check.due("undo(1)", x.undo(1), NearMarks.NOT);
        NearMarks y = new NearMarks();
        y.flip(7);
        for (int n = 0; n < 19; n++) {
            y.flip(n % 2);
        }
        Check.due("undo(20) of just 20", y.undo(20), 0);
        Check.due("hand(): all 20 are undone", y.hand(), 0L);
        NearMarks drifts = new NearMarks();
        drifts.flip(9);
        drifts.drift(20);
        Check.due("told(16) of 20 times", drifts.told(16), 20);
        Check.due("undo(20) of 20 times", drifts.undo(20), 0);
        Check.due("hand() ahead of 20 times", drifts.hand(), 1L << 9);
    }

    private static void undoingWrapsAround() {
        Doc.section(3, "(20 at most are kept)");
        for (int step = 1; step <= 20; step++) {
            NearMarks x = new NearMarks();
            java.util.ArrayDeque<Long> hands = new java.util.ArrayDeque<>();
            // Some deeds, fewer undone, over and over: where they are kept comes round more than once.
            for (int round = 0; round < 6; round++) {
                for (int n = 0; n < 20; n++) {
                    hands.push(x.hand());
                    x.flip((round * 7 + n) % 64);
                }
                for (int n = 1; n < step; n++) {
                    hands.pop();
                }
                long due = hands.pop();
                x.undo(step);
                Check.due("hand() after undo(" + step + ") in round " + round, x.hand(), due);
                Check.due("told(16) then", x.told(16), 20 - step);
            }
            Check.due("undo of one too many", x.undo(21 - step), NearMarks.NOT);
        }
    }

    private static void undoneIsAsAhead() {
        Doc.section(3, "the mark in hand, THE STORE, THE CUT are as ahead of them;");
        NearMarks full = Make.fullOfBits();
        full.kind(39, 2);
        full.keep(0);
        String before = Make.picture(full);
        full.kind(39, 1);
        full.take(39);
        full.take(0);
        full.cut(0xFFL);
        full.type(5, 255);
        full.put(1);
        Check.due("undo(6)", full.undo(6), 40);
        Check.holds("all is as ahead of them", Make.picture(full).equals(before));
        NearMarks one = new NearMarks();
        one.put(2);
        one.take(0);
        Check.due("undo(1) brings the one mark back", one.undo(1), 1);
        Check.due("its kind", one.mark(0, 0), 2);
        Check.due("undo(1) takes it again", one.undo(1), 0);
        Doc.section(3, "THE SEED stays.");
        NearMarks x = new NearMarks();
        x.drift(1);
        x.undo(1);
        Check.due("hand()", x.hand(), 0L);
        Check.due("the seed", x.seed(0), 654583775);
    }

    private static void images() {
        Doc.section(3, "IMAGES 0, 1 keep these, THE SEED.");
        NearMarks x = Refusals.busy();
        x.seed(4);
        Check.due("keep(0)", x.keep(0), 1);
        String before = Make.picture(x);
        x.take(0);
        x.take(38);
        x.kind(0, 1);
        x.cut(1L);
        x.flip(0);
        x.seed(9);
        Check.due("goBack(0)", x.goBack(0), 1);
        Check.holds("all is as it was kept", Make.picture(x).equals(before));
        Check.due("the seed", x.seed(0), 4);
        NearMarks none = new NearMarks();
        none.keep(0);
        none.put(0);
        none.keep(1);
        none.goBack(0);
        Check.due("told(0) of the image without marks", none.told(0), 0);
        none.goBack(1);
        Check.due("told(0) of the image with one", none.told(0), 1);
        none.take(0);
        none.goBack(1);
        Check.due("told(0): the image is not taken from", none.told(0), 1);
    }
}
