/** Promises 18 to 24, sentence by sentence, at the bounds that each names. */
public final class AskedBoundsTest {
    private static final int[] FAR = {Integer.MIN_VALUE, Integer.MAX_VALUE};

    public static void main(String[] args) {
        promise18();
        promise18outside();
        promise19();
        promise19none();
        promise20();
        promise20unknown();
        promise21();
        promise21outside();
        promise22();
        promise22refused();
        promise23();
        promise23none();
        promise24();
        promise24outside();
        Check.end();
    }

    private static void promise18() {
        Doc.promise(18, "NEAR within b (0 .. 64): MARKS (a SET).");
        NearMarks x = Make.with(0x0L, -1L, Long.MIN_VALUE);
        Check.due("near(0)", x.near(0), 1L);
        Check.due("near(1)", x.near(1), 5L);
        Check.due("near(63)", x.near(63), 5L);
        Check.due("near(64)", x.near(64), 7L);
        NearMarks full = Make.fullOfBits();
        Check.due("near(64) of forty", full.near(64), 0xFF_FFFF_FFFFL);
        for (int k = 0; k < 39; k++) {
            full.kind(k, 1);
        }
        Check.due("near(64), the last of forty alone", full.near(64), 1L << 39);
        Check.due("near(64) without marks", new NearMarks().near(64), 0L);
    }

    private static void promise18outside() {
        Doc.promise(18, "OUTSIDE (then 0).");
        NearMarks x = Make.full();
        Check.due("near(-1)", x.near(-1), 0L);
        Check.due("near(65)", x.near(65), 0L);
        for (int b : FAR) {
            Check.due("near(" + b + ")", x.near(b), 0L);
        }
    }

    private static void promise19() {
        Doc.promise(19, "The k-th NEAREST MARK (0 on);");
        // Mark k is 39 less k from what is in hand.
        NearMarks x = new NearMarks();
        for (int k = 0; k < 40; k++) {
            x.put(k % 3);
            x.flip(k);
        }
        x.hold(39);
        for (int k = 0; k < 40; k++) {
            Check.due("nearest(" + k + ")", x.nearest(k), 39 - k);
        }
        x.hold(0);
        Check.due("nearest(0) of the other end", x.nearest(0), 0);
        Check.due("nearest(39) of the other end", x.nearest(39), 39);
    }

    private static void promise19none() {
        Doc.promise(19, "NONE: not so many.");
        Check.due("nearest(0) without marks", new NearMarks().nearest(0), NearMarks.NONE);
        NearMarks one = Make.with(0x3L);
        Check.due("nearest(0) of one", one.nearest(0), 0);
        Check.due("nearest(1) of one", one.nearest(1), NearMarks.NONE);
        NearMarks full = Make.full();
        Check.due("nearest(40) of forty", full.nearest(40), NearMarks.NONE);
        Check.due("nearest(-1)", full.nearest(-1), NearMarks.NONE);
        for (int k : FAR) {
            Check.due("nearest(" + k + ")", full.nearest(k), NearMarks.NONE);
        }
        full.take(0);
        Check.due("nearest(39) of thirty-nine", full.nearest(39), NearMarks.NONE);
    }

    private static void promise20() {
        Doc.promise(20, "APART of two MARKS.");
        NearMarks x = Make.with(0x0L, 0x1L, -1L);
        Check.due("apart(0, 1), the least", x.apart(0, 1), 1);
        Check.due("apart(2, 0), the greatest", x.apart(2, 0), 64);
        Check.due("apart(1, 2)", x.apart(1, 2), 63);
        NearMarks full = Make.fullOfBits();
        Check.due("apart(0, 39) of forty", full.apart(0, 39), 2);
        Check.due("apart(39, 0) of forty", full.apart(39, 0), 2);
    }

    private static void promise20unknown() {
        Doc.promise(20, "UNKNOWN.");
        NearMarks none = new NearMarks();
        Check.due("apart(0, 1) without marks", none.apart(0, 1), NearMarks.UNKNOWN);
        Check.due("apart(0, 0) without marks", none.apart(0, 0), NearMarks.UNKNOWN);
        NearMarks x = Make.with(0x0L, 0x1L);
        Check.due("apart(0, 0), one twice", x.apart(0, 0), NearMarks.UNKNOWN);
        Check.due("apart(1, 1), one twice", x.apart(1, 1), NearMarks.UNKNOWN);
        Check.due("apart(0, 2)", x.apart(0, 2), NearMarks.UNKNOWN);
        Check.due("apart(2, 0)", x.apart(2, 0), NearMarks.UNKNOWN);
        Check.due("apart(-1, 0)", x.apart(-1, 0), NearMarks.UNKNOWN);
        Check.due("apart(0, -1)", x.apart(0, -1), NearMarks.UNKNOWN);
        for (int k : FAR) {
            Check.due("apart(" + k + ", 0)", x.apart(k, 0), NearMarks.UNKNOWN);
            Check.due("apart(0, " + k + ")", x.apart(0, k), NearMarks.UNKNOWN);
        }
        NearMarks full = Make.full();
        Check.due("apart(40, 0) of forty", full.apart(40, 0), NearMarks.UNKNOWN);
        Check.due("apart(0, 40) of forty", full.apart(0, 40), NearMarks.UNKNOWN);
    }

    private static void promise21() {
        Doc.promise(21, "GROUPS within b (0 .. 64): how many.");
        NearMarks x = Make.with(0x0L, -1L, Long.MIN_VALUE);
        Check.due("groups(0)", x.groups(0), 3);
        Check.due("groups(1)", x.groups(1), 2);
        Check.due("groups(62)", x.groups(62), 2);
        Check.due("groups(63)", x.groups(63), 1);
        Check.due("groups(64)", x.groups(64), 1);
        Check.due("groups(0) without marks", new NearMarks().groups(0), 0);
        Check.due("groups(64) without marks", new NearMarks().groups(64), 0);
        Check.due("groups(0) of forty", Make.full().groups(0), 40);
        Check.due("groups(64) of forty", Make.full().groups(64), 1);
    }

    private static void promise21outside() {
        Doc.promise(21, "OUTSIDE.");
        NearMarks x = Make.with(0x0L);
        Check.due("groups(-1)", x.groups(-1), NearMarks.OUTSIDE);
        Check.due("groups(65)", x.groups(65), NearMarks.OUTSIDE);
        for (int b : FAR) {
            Check.due("groups(" + b + ")", x.groups(b), NearMarks.OUTSIDE);
        }
        Check.due("groups(65) without marks", new NearMarks().groups(65), NearMarks.OUTSIDE);
    }

    private static void promise22() {
        Doc.promise(22, "Of a GROUP within b: what = 0 how many MARKS, 1 its least MARK, 2 WIDE.");
        NearMarks x = Make.with(-1L, 0x0L, Long.MIN_VALUE, 0x1L);
        int[][] due = {{1, 0, 0}, {3, 1, 2}};
        for (int g = 0; g < 2; g++) {
            for (int what = 0; what < 3; what++) {
                Check.due("group(1, " + g + ", " + what + ")", x.group(1, g, what), due[g][what]);
            }
        }
        int[] all = {4, 0, 64};
        for (int what = 0; what < 3; what++) {
            Check.due("group(64, 0, " + what + ")", x.group(64, 0, what), all[what]);
        }
        NearMarks full = Make.fullOfBits();
        Check.due("group(0, 39, 0) of forty", full.group(0, 39, 0), 1);
        Check.due("group(0, 39, 1) of forty", full.group(0, 39, 1), 39);
        Check.due("group(0, 39, 2) of forty", full.group(0, 39, 2), 0);
        Check.due("group(64, 0, 0) of forty", full.group(64, 0, 0), 40);
    }

    private static void promise22refused() {
        Doc.promise(22, "OUTSIDE (b), UNKNOWN, OUTSIDE (what).");
        NearMarks x = Make.with(0x0L, 0x1L);
        Check.due("group(-1, 0, 0)", x.group(-1, 0, 0), NearMarks.OUTSIDE);
        Check.due("group(65, 0, 0)", x.group(65, 0, 0), NearMarks.OUTSIDE);
        Check.due("group(65, 9, 0): b first", x.group(65, 9, 0), NearMarks.OUTSIDE);
        Check.due("group(0, 2, 0)", x.group(0, 2, 0), NearMarks.UNKNOWN);
        Check.due("group(1, 1, 0)", x.group(1, 1, 0), NearMarks.UNKNOWN);
        Check.due("group(0, -1, 0)", x.group(0, -1, 0), NearMarks.UNKNOWN);
        Check.due("group(0, 2, 3): UNKNOWN ahead of what", x.group(0, 2, 3), NearMarks.UNKNOWN);
        Check.due("group(0, 1, 3)", x.group(0, 1, 3), NearMarks.OUTSIDE);
        Check.due("group(0, 1, -1)", x.group(0, 1, -1), NearMarks.OUTSIDE);
        for (int number : FAR) {
            Check.due("group(" + number + ", 0, 0)", x.group(number, 0, 0), NearMarks.OUTSIDE);
            Check.due("group(" + number + ", 9, 9)", x.group(number, 9, 9), NearMarks.OUTSIDE);
            Check.due("group(0, " + number + ", 0)", x.group(0, number, 0), NearMarks.UNKNOWN);
            Check.due("group(0, 0, " + number + ")", x.group(0, 0, number), NearMarks.OUTSIDE);
        }
        Check.due("group(0, 0, 0) without marks", new NearMarks().group(0, 0, 0), NearMarks.UNKNOWN);
        Check.due("group(65, 0, 0) without marks", new NearMarks().group(65, 0, 0), NearMarks.OUTSIDE);
        Check.due("group(0, 40, 0) of forty", Make.full().group(0, 40, 0), NearMarks.UNKNOWN);
        // What an earlier call found for another b, or for more marks, is not there any more.
        x.groups(0);
        x.take(1);
        Check.due("group(0, 1, 0) when one is taken", x.group(0, 1, 0), NearMarks.UNKNOWN);
    }

    private static void promise23() {
        Doc.promise(23, "MIDDLE of a GROUP within b;");
        NearMarks x = Make.with(-1L, 0x0L, Long.MIN_VALUE, 0x1L);
        Check.due("middle(0, 0)", x.middle(0, 0), -1L);
        Check.due("middle(0, 3)", x.middle(0, 3), 0x1L);
        Check.due("middle(1, 1), none has most", x.middle(1, 1), 0L);
        Check.due("middle(64, 0), just half", x.middle(64, 0), 0L);
        x.take(1);
        Check.due("middle(64, 0) of three", x.middle(64, 0), Long.MIN_VALUE + 1);
        NearMarks full = Make.fullOfBits();
        Check.due("middle(0, 39) of forty", full.middle(0, 39), 1L << 39);
        Check.due("middle(64, 0) of forty", full.middle(64, 0), 0L);
    }

    private static void promise23none() {
        Doc.promise(23, "0: there is none.");
        NearMarks x = Make.with(-1L, Long.MAX_VALUE);
        Check.due("middle(0, 1), the last", x.middle(0, 1), Long.MAX_VALUE);
        Check.due("middle(0, 2)", x.middle(0, 2), 0L);
        Check.due("middle(1, 0), the one", x.middle(1, 0), Long.MAX_VALUE);
        Check.due("middle(1, 1)", x.middle(1, 1), 0L);
        Check.due("middle(0, -1)", x.middle(0, -1), 0L);
        Check.due("middle(-1, 0)", x.middle(-1, 0), 0L);
        Check.due("middle(65, 0)", x.middle(65, 0), 0L);
        for (int number : FAR) {
            Check.due("middle(" + number + ", 0)", x.middle(number, 0), 0L);
            Check.due("middle(0, " + number + ")", x.middle(0, number), 0L);
        }
        Check.due("middle(0, 0) without marks", new NearMarks().middle(0, 0), 0L);
        Check.due("middle(0, 40) of forty", Make.full().middle(0, 40), 0L);
    }

    private static void promise24() {
        Doc.promise(24, "FEWEST into p PARTS (1 .. 8): what = 0 how many are LOOKED AT, 1 which CUT (0 .. 2).");
        NearMarks full = Make.fullOfBits();
        Check.due("fewest(1, 0) of forty", full.fewest(1, 0), 40);
        Check.due("fewest(1, 1) of forty", full.fewest(1, 1), 0);
        Check.due("fewest(8, 0) of forty", full.fewest(8, 0), 1600);
        Check.due("fewest(8, 1) of forty", full.fewest(8, 1), 0);
        // Five parts: by CUT 0 from 0, 13, 26, 39, 52; by CUT 1 from 0, 12, 25, 38, 51; by CUT 2 from 0, 13, 26, 39, 51.
        NearMarks first = Make.with(0x0L, 1L << 12 | 1L << 13 | 1L << 26 | 1L << 51 | 1L << 52);
        Check.due("fewest(5, 1) by the first", first.fewest(5, 1), 0);
        NearMarks last = Make.with(0x0L, 1L << 11 | 1L << 12 | 1L << 25 | 1L << 38 | 1L << 51);
        Check.due("fewest(5, 1) by the last", last.fewest(5, 1), 1);
        NearMarks third = Make.with(0x0L, 1L << 12 | 1L << 25 | 1L << 38 | 1L << 50 | 1L << 51);
        Check.due("fewest(5, 1) by every other", third.fewest(5, 1), 2);
        Check.due("fewest(5, 0) by every other", third.fewest(5, 0), 2);
        Check.due("told(1): the cut stays", third.told(1), 4);
    }

    private static void promise24outside() {
        Doc.promise(24, "OUTSIDE.");
        NearMarks x = Make.with(0x0L);
        Check.due("fewest(0, 0)", x.fewest(0, 0), NearMarks.OUTSIDE);
        Check.due("fewest(9, 0)", x.fewest(9, 0), NearMarks.OUTSIDE);
        Check.due("fewest(-1, 0)", x.fewest(-1, 0), NearMarks.OUTSIDE);
        Check.due("fewest(1, 2)", x.fewest(1, 2), NearMarks.OUTSIDE);
        Check.due("fewest(8, -1)", x.fewest(8, -1), NearMarks.OUTSIDE);
        for (int number : FAR) {
            Check.due("fewest(" + number + ", 0)", x.fewest(number, 0), NearMarks.OUTSIDE);
            Check.due("fewest(1, " + number + ")", x.fewest(1, number), NearMarks.OUTSIDE);
        }
    }
}
