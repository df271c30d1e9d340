/** Promises 25 to 30, sentence by sentence, at the bounds that each names. */
public final class JudgedBoundsTest {
    private static final int[] FAR = {Integer.MIN_VALUE, Integer.MAX_VALUE};

    public static void main(String[] args) {
        promise25();
        promise25refused();
        promise26();
        promise26refused();
        promise26full();
        promise27();
        promise28();
        promise28outside();
        promise29();
        promise29unknown();
        promise30();
        promise30undoesNothing();
        promise30unknown();
        promise30not();
        Check.end();
    }

    private static void promise25() {
        Doc.promise(25, "SEEN (APART 0 .. 64 from the mark in hand as it is): how much.");
        NearMarks x = Make.with(0x0L, -1L);
        Check.due("see(0)", x.see(0), 1);
        Check.due("told(12)", x.told(12), 0);
        x.tear();
        Check.due("see(64)", x.see(64), 1);
        Check.due("told(12)", x.told(12), 1);
        x.hold(1);
        Check.due("see(0) of the other", x.see(0), 2);
        Check.due("told(12) of both", x.told(12), 1);
        Check.due("see(64), as it is not", x.see(64), 3);
        Check.due("told(11)", x.told(11), 0);
        Check.due("see(0) without marks", new NearMarks().see(0), 1);
    }

    private static void promise25refused() {
        Doc.promise(25, "OUTSIDE, FULL (6).");
        NearMarks x = Make.with(0x0L);
        Check.due("see(-1)", x.see(-1), NearMarks.OUTSIDE);
        Check.due("see(65)", x.see(65), NearMarks.OUTSIDE);
        for (int apart : FAR) {
            Check.due("see(" + apart + ")", x.see(apart), NearMarks.OUTSIDE);
        }
        Check.due("told(10)", x.told(10), 0);
        for (int n = 1; n <= 6; n++) {
            Check.due("see(0) the " + n + "th time", x.see(0), n);
        }
        Check.due("see(0) the 7th time", x.see(0), NearMarks.FULL);
        Check.due("see(65): OUTSIDE first", x.see(65), NearMarks.OUTSIDE);
        Check.due("see(-1): OUTSIDE first", x.see(-1), NearMarks.OUTSIDE);
        Check.due("told(10)", x.told(10), 6);
    }

    private static void promise26() {
        Doc.promise(26, "An entry behind THE BOOK (APART 0 .. 64): how many.");
        NearMarks x = Make.with(0x0L, -1L);
        Check.due("write(0, 1, 64)", x.write(0, 1, 64), 1);
        Check.due("told(15)", x.told(15), NearMarks.NONE);
        Check.due("write(1, 0, 64)", x.write(1, 0, 64), 2);
        Check.due("told(15)", x.told(15), NearMarks.NONE);
        Check.due("write(0, 1, 0)", x.write(0, 1, 0), 3);
        Check.due("told(15), behind the others", x.told(15), 2);
        Check.due("write(0, 1, 63)", x.write(0, 1, 63), 4);
        Check.due("told(15), the first of both", x.told(15), 2);
    }

    private static void promise26refused() {
        Doc.promise(26, "UNKNOWN, OUTSIDE,");
        NearMarks x = Make.with(0x0L, -1L);
        Check.due("write(0, 0, 0), one twice", x.write(0, 0, 0), NearMarks.UNKNOWN);
        Check.due("write(0, 2, 1)", x.write(0, 2, 1), NearMarks.UNKNOWN);
        Check.due("write(2, 0, 1)", x.write(2, 0, 1), NearMarks.UNKNOWN);
        Check.due("write(-1, 0, 1)", x.write(-1, 0, 1), NearMarks.UNKNOWN);
        Check.due("write(0, -1, 1)", x.write(0, -1, 1), NearMarks.UNKNOWN);
        Check.due("write(0, 1, -1)", x.write(0, 1, -1), NearMarks.OUTSIDE);
        Check.due("write(0, 1, 65)", x.write(0, 1, 65), NearMarks.OUTSIDE);
        Check.due("write(1, 1, 65): UNKNOWN first", x.write(1, 1, 65), NearMarks.UNKNOWN);
        Check.due("write(2, 0, 65): UNKNOWN first", x.write(2, 0, 65), NearMarks.UNKNOWN);
        for (int number : FAR) {
            Check.due("write(" + number + ", 0, 0)", x.write(number, 0, 0), NearMarks.UNKNOWN);
            Check.due("write(0, " + number + ", 0)", x.write(0, number, 0), NearMarks.UNKNOWN);
            Check.due("write(0, 1, " + number + ")", x.write(0, 1, number), NearMarks.OUTSIDE);
        }
        Check.due("told(14)", x.told(14), 0);
        Check.due("write(0, 1, 0) without marks", new NearMarks().write(0, 1, 0), NearMarks.UNKNOWN);
        NearMarks full = Make.full();
        Check.due("write(39, 38, 0) of forty", full.write(39, 38, 0), 1);
        Check.due("write(40, 38, 0) of forty", full.write(40, 38, 0), NearMarks.UNKNOWN);
        Check.due("write(38, 40, 0) of forty", full.write(38, 40, 0), NearMarks.UNKNOWN);
    }

    private static void promise26full() {
        Doc.promise(26, "FULL (20).");
        NearMarks x = Make.with(0x0L, -1L);
        for (int n = 1; n <= 20; n++) {
            Check.due("write the " + n + "th", x.write(0, 1, 64), n);
        }
        Check.due("write the 21st", x.write(0, 1, 64), NearMarks.FULL);
        Check.due("write(0, 1, 65): OUTSIDE first", x.write(0, 1, 65), NearMarks.OUTSIDE);
        Check.due("write(0, 0, 64): UNKNOWN first", x.write(0, 0, 64), NearMarks.UNKNOWN);
        Check.due("told(14)", x.told(14), 20);
        Check.due("told(15)", x.told(15), NearMarks.NONE);
    }

    private static void promise27() {
        Doc.promise(27, "Nothing SEEN, no BOOK: how much both had.");
        Check.due("tear() of a new object", new NearMarks().tear(), 0);
        NearMarks x = Refusals.busy();
        Check.due("tear() of 6 and 20", x.tear(), 26);
        Check.due("told(10)", x.told(10), 0);
        Check.due("told(11)", x.told(11), 40);
        Check.due("told(14)", x.told(14), 0);
        Check.due("told(15)", x.told(15), NearMarks.NONE);
        Check.due("tear() again", x.tear(), 0);
        Check.due("told(0) stays", x.told(0), 40);
        Check.due("told(16) stays", x.told(16), 20);
        for (int n = 1; n <= 6; n++) {
            Check.due("see(2) the " + n + "th time again", x.see(2), n);
        }
        Check.due("told(11), nothing of the torn is left", x.told(11), 39);
        for (int n = 1; n <= 20; n++) {
            Check.due("write the " + n + "th again", x.write(n, 0, 2), n);
        }
        Check.due("told(15), nothing of the torn is left", x.told(15), NearMarks.NONE);
        NearMarks seen = Make.with(0x0L, 0x1L);
        seen.see(0);
        Check.due("tear() of one seen alone", seen.tear(), 1);
        seen.write(0, 1, 1);
        Check.due("tear() of one entry alone", seen.tear(), 1);
    }

    private static void promise28() {
        Doc.promise(28, "THE SEED becomes v (0 .. 2147483647): what it was.");
        NearMarks x = new NearMarks();
        Check.due("seed(0)", x.seed(0), 0);
        Check.due("seed(2147483647)", x.seed(Integer.MAX_VALUE), 0);
        Check.due("seed(1)", x.seed(1), Integer.MAX_VALUE);
        Check.due("seed(0)", x.seed(0), 1);
        x.drift(1);
        Check.due("hand() by 0", x.hand(), 0x0404_0404_0404_0404L);
        Check.due("told(16): it is no deed", x.told(16), 1);
    }

    private static void promise28outside() {
        Doc.promise(28, "OUTSIDE.");
        NearMarks x = new NearMarks();
        x.seed(12);
        Check.due("seed(-1)", x.seed(-1), NearMarks.OUTSIDE);
        Check.due("seed(-2147483648)", x.seed(Integer.MIN_VALUE), NearMarks.OUTSIDE);
        Check.due("the seed", x.seed(0), 12);
    }

    private static void promise29() {
        Doc.promise(29, "IMAGE i becomes what is so (nothing can be undone then): 1.");
        NearMarks x = new NearMarks();
        x.flip(0);
        Check.due("keep(0)", x.keep(0), 1);
        Check.due("told(16)", x.told(16), 0);
        Check.due("undo(1)", x.undo(1), NearMarks.NOT);
        x.flip(1);
        x.put(0);
        Check.due("keep(1)", x.keep(1), 1);
        Check.due("told(16)", x.told(16), 0);
        Check.due("hand() stays", x.hand(), 3L);
        x.goBack(0);
        Check.due("hand() of image 0", x.hand(), 1L);
        Check.due("told(0) of image 0", x.told(0), 0);
        x.goBack(1);
        Check.due("hand() of image 1", x.hand(), 3L);
        Check.due("told(0) of image 1", x.told(0), 1);
        x.take(0);
        Check.due("keep(1) over it", x.keep(1), 1);
        x.goBack(0);
        x.goBack(1);
        Check.due("told(0) of image 1 anew", x.told(0), 0);
        NearMarks full = Make.fullOfBits();
        full.keep(0);
        for (int n = 0; n < 40; n++) {
            full.take(0);
        }
        full.goBack(0);
        Check.due("told(0) of an image of forty", full.told(0), 40);
        Check.due("markAt(39)", full.markAt(39), 1L << 39);
    }

    private static void promise29unknown() {
        Doc.promise(29, "UNKNOWN.");
        NearMarks x = new NearMarks();
        x.flip(0);
        Check.due("keep(-1)", x.keep(-1), NearMarks.UNKNOWN);
        Check.due("keep(2)", x.keep(2), NearMarks.UNKNOWN);
        for (int i : FAR) {
            Check.due("keep(" + i + ")", x.keep(i), NearMarks.UNKNOWN);
        }
        Check.due("told(16): still to be undone", x.told(16), 1);
        Check.due("goBack(0)", x.goBack(0), NearMarks.NOT);
        Check.due("goBack(1)", x.goBack(1), NearMarks.NOT);
    }

    private static void promise30() {
        Doc.promise(30, "What is so becomes IMAGE i");
        NearMarks x = Make.with(0x1L, -1L);
        x.kind(1, 2);
        x.cut(0xFFL);
        x.seed(Integer.MAX_VALUE);
        x.keep(1);
        String before = Make.picture(x);
        for (int time = 0; time < 2; time++) {
            x.kind(1, 0);
            x.take(0);
            x.cut(1L);
            x.drift(20);
            Check.due("goBack(1)", x.goBack(1), 1);
            Check.holds("all is as it was kept", Make.picture(x).equals(before));
            Check.due("the seed", x.seed(3), Integer.MAX_VALUE);
        }
        Check.due("goBack(1) at once again", x.goBack(1), 1);
        Check.holds("all is as it was kept", Make.picture(x).equals(before));
    }

    private static void promise30undoesNothing() {
        Doc.promise(30, "(nothing can be undone then): 1.");
        NearMarks x = new NearMarks();
        x.keep(0);
        for (int n = 0; n < 20; n++) {
            x.flip(n);
        }
        Check.due("goBack(0)", x.goBack(0), 1);
        Check.due("told(16)", x.told(16), 0);
        Check.due("undo(1)", x.undo(1), NearMarks.NOT);
        Check.due("undo(20)", x.undo(20), NearMarks.NOT);
        x.flip(5);
        Check.due("undo(1) of what came after", x.undo(1), 0);
        Check.due("hand()", x.hand(), 0L);
    }

    private static void promise30unknown() {
        Doc.promise(30, "UNKNOWN,");
        NearMarks x = new NearMarks();
        x.keep(0);
        x.keep(1);
        x.flip(0);
        Check.due("goBack(-1)", x.goBack(-1), NearMarks.UNKNOWN);
        Check.due("goBack(2)", x.goBack(2), NearMarks.UNKNOWN);
        for (int i : FAR) {
            Check.due("goBack(" + i + ")", x.goBack(i), NearMarks.UNKNOWN);
        }
        Check.due("hand()", x.hand(), 1L);
        Check.due("told(16)", x.told(16), 1);
    }

    private static void promise30not() {
        Doc.promise(30, "NOT: it was not kept.");
        NearMarks x = new NearMarks();
        x.flip(0);
        Check.due("goBack(0)", x.goBack(0), NearMarks.NOT);
        Check.due("goBack(1)", x.goBack(1), NearMarks.NOT);
        x.keep(1);
        x.flip(1);
        Check.due("goBack(0), the other is kept", x.goBack(0), NearMarks.NOT);
        Check.due("hand()", x.hand(), 3L);
        Check.due("told(16)", x.told(16), 1);
        Check.due("goBack(1)", x.goBack(1), 1);
        Check.due("hand()", x.hand(), 1L);
        NearMarks y = new NearMarks();
        y.keep(0);
        Check.due("goBack(1), the other is kept", y.goBack(1), NearMarks.NOT);
        Check.due("goBack(0)", y.goBack(0), 1);
    }
}
