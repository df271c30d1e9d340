/** Promises 1 to 6: a new object, told, hand, markAt, mark, part. */
public final class MarksTest {
    private static final int[] WRONG = {Integer.MIN_VALUE, -1, Integer.MAX_VALUE};

    public static void main(String[] args) {
        promise1();
        promise2ofMarksAndHand();
        promise2ofLooks();
        promise2ofNearest();
        promise2ofDeadAndTogether();
        promise2ofSeen();
        promise2ofAsk();
        promise2ofBook();
        promise2ofUndoing();
        promise2refused();
        promise3();
        promise4();
        promise5();
        promise6();
        Check.end();
    }

    private static void promise1() {
        NearMarks x = new NearMarks();
        int[] due = {0, 4, 0, -1, 0, 0, -1, -1, 64, -1, 0, 0, -1, -1, 0, -1, 0};
        for (int what = 0; what < due.length; what++) {
            Check.due("new told(" + what + ")", x.told(what), due[what]);
        }
        Check.due("new hand()", x.hand(), 0L);
        Check.due("new markAt(0)", x.markAt(0), 0L);
        Check.due("new near(64)", x.near(64), 0L);
        Check.due("new nearest(0)", x.nearest(0), NearMarks.NONE);
        Check.due("new groups(64)", x.groups(64), 0);
        Check.due("new fewest(8, 0)", x.fewest(8, 0), 0);
        Check.due("new fewest(7, 1)", x.fewest(7, 1), 0);
        Check.due("new goBack(0)", x.goBack(0), NearMarks.NOT);
        Check.due("new goBack(1)", x.goBack(1), NearMarks.NOT);
        Check.due("new tear()", x.tear(), 0);
        Check.due("new seed(5)", x.seed(5), 0);
        for (int p = 0; p < 4; p++) {
            Check.due("new part(" + p + ", 0)", x.part(p, 0), 16 * p);
            Check.due("new part(" + p + ", 1)", x.part(p, 1), 16);
        }
        NearMarks other = Make.with(7L);
        Check.due("another object's told(0)", new NearMarks().told(0), 0);
        Check.due("its own told(0)", other.told(0), 1);
    }

    private static void promise2ofMarksAndHand() {
        NearMarks x = Make.with(0x10L, 0x30L);
        Check.due("told(0)", x.told(0), 2);
        Check.due("told(1)", x.told(1), 4);
        Check.due("told(2)", x.told(2), 0);
        Check.due("told(3) of no mark", x.told(3), NearMarks.NONE);
        Make.hand(x, 0x30L);
        Check.due("told(2)", x.told(2), 2);
        Check.due("told(3)", x.told(3), 1);
        Make.hand(x, -1L);
        Check.due("told(2) of all", x.told(2), 64);
        x.cut(1L);
        Check.due("told(1) of one part", x.told(1), 1);
    }

    private static void promise2ofLooks() {
        // By 0: apart by 3 and by 4 with a part alike; apart by 4 without one; shunned.
        NearMarks x = Make.with(0x7L, 0xFL, 0x8000_0001_0100_0010L);
        x.kind(0, 1);
        Check.due("told(4)", x.told(4), 2);
        Check.due("told(5)", x.told(5), 1);
        x.cut(0x11L);
        Check.due("told(4) by parts of 4 and 60", x.told(4), 3);
        Check.due("told(5) by parts of 4 and 60", x.told(5), 3);
        x.cut(0x3L);
        Check.due("told(4) by parts of 1 and 63", x.told(4), 1);
        x.cut(1L);
        Check.due("told(4) by one part", x.told(4), 0);
        Make.hand(x, 0xFL);
        Check.due("told(4) of itself", x.told(4), 1);
        Check.due("told(5) of itself", x.told(5), 0);
    }

    private static void promise2ofNearest() {
        NearMarks x = Make.with(0xFFL, 0x3L, 0x5L);
        Check.due("told(6), the least of like ones", x.told(6), 1);
        Check.due("told(7)", x.told(7), 2);
        x.kind(1, 1);
        Check.due("told(6), of all kinds", x.told(6), 1);
        Make.hand(x, 0xFFL);
        Check.due("told(6) of itself", x.told(6), 0);
        Check.due("told(7) of itself", x.told(7), 0);
        NearMarks far = Make.with(-1L);
        Check.due("told(6) of one far off", far.told(6), 0);
        Check.due("told(7) of one far off", far.told(7), 64);
    }

    private static void promise2ofDeadAndTogether() {
        Check.due("told(8) of one mark", Make.with(0xF0L).told(8), 64);
        Check.due("told(9) of one mark", Make.with(0xF0L).told(9), NearMarks.NONE);
        NearMarks alike = Make.with(0x0L, 0x12L);
        Check.due("told(8) of two", alike.told(8), 62);
        Check.due("told(9) alike", alike.told(9), 64 * 1 + 4);
        NearMarks unlike = Make.with(0x4L, 0x8000_0000_0000_0000L);
        Check.due("told(8) unlike", unlike.told(8), 62);
        Check.due("told(9) unlike", unlike.told(9), 64 * 2 + 63);
        NearMarks none = Make.with(0x0L, 0x1L, 0x2L, 0x3L);
        Check.due("told(8) of two free bits", none.told(8), 62);
        Check.due("told(9) of two free bits", none.told(9), NearMarks.NONE);
        NearMarks allOne = Make.with(-1L, -2L);
        Check.due("told(8), dead ones that are 1", allOne.told(8), 63);
        Check.due("told(9), dead ones do not go together", allOne.told(9), NearMarks.NONE);
        NearMarks several = Make.with(0x0L, 0x1L | 0x100L, 0x6L, 0x1L | 0x100L | 0x6L);
        Check.due("told(9), the least pair", several.told(9), 8);
        several.take(1);
        several.take(2);
        Check.due("told(9) of what is left", several.told(9), 64 * 1 + 2);
    }

    private static void promise2ofSeen() {
        NearMarks x = Make.with(0x1L, 0x3L, 0x5L, 0x7L);
        Check.due("told(10)", x.told(10), 0);
        Check.due("told(11) with nothing seen", x.told(11), 4);
        Check.due("told(12) with nothing seen", x.told(12), 0);
        x.see(2);
        Check.due("told(10) seen", x.told(10), 1);
        Check.due("told(11) seen", x.told(11), 2);
        Check.due("told(12) seen", x.told(12), 1);
        Check.due("told(13) seen", x.told(13), 1);
        x.flip(2);
        x.see(1);
        Check.due("told(11) seen from two", x.told(11), 1);
        Check.due("told(12) seen from two", x.told(12), 2);
        Check.due("told(13): one alone is not parted", x.told(13), NearMarks.NONE);
        x.see(0);
        Check.due("told(11): none fits", x.told(11), 0);
        Check.due("told(12): none fits", x.told(12), NearMarks.NONE);
        Check.due("told(13): none fits", x.told(13), NearMarks.NONE);
        NearMarks shun = new NearMarks();
        shun.put(1);
        Check.due("told(11) of a shunned one", shun.told(11), 1);
    }

    private static void promise2ofAsk() {
        // From 1 they are 0, 1, 1, 2, 1 apart, from 7: 2, 1, 1, 0, 3; from 0x11: 1, 2, 2, 3, 0.
        NearMarks x = Make.with(0x1L, 0x3L, 0x5L, 0x7L, 0x11L);
        Check.due("told(13) of all", x.told(13), 1);
        // Bits 0, 1, 2 alone are all 2 apart from one another: any of them leaves two.
        NearMarks alone = Make.with(0x1L, 0x2L, 0x4L);
        Check.due("told(13) of like ones", alone.told(13), 0);
        // A mark that could not be the one may still be the best to ask by.
        NearMarks outside = Make.with(0x1L, 0x2L, 0x4L, 0x8L | 0x3L << 8, 0x107L);
        outside.see(1);
        Check.due("told(11)", outside.told(11), 3);
        Check.due("told(13)", outside.told(13), 0);
        NearMarks better = Make.with(0x1L, 0x2L, 0x4L, 0x8L, 0x3L, 0x800FL);
        better.see(1);
        Check.due("told(11)", better.told(11), 4);
        Check.due("told(13), one that it can't be", better.told(13), 4);
        // From 1 they are apart by 1, 63, 0, 64, 2; from 0 and from all ones two are alike.
        NearMarks wide = Make.with(0x0L, -1L, 0x1L, -2L, 0x2L);
        Check.due("told(13) with 64 apart", wide.told(13), 2);
        Check.due("told(13) of one mark", Make.with(9L).told(13), NearMarks.NONE);
    }

    private static void promise2ofBook() {
        NearMarks x = Make.with(0x1L, 0x3L, 0x7L);
        x.write(0, 1, 1);
        x.write(2, 0, 2);
        Check.due("told(14)", x.told(14), 2);
        Check.due("told(15) of a right book", x.told(15), NearMarks.NONE);
        x.write(1, 2, 5);
        x.write(0, 1, 6);
        Check.due("told(15) of a wrong entry", x.told(15), 2);
        x.take(2);
        Check.due("told(15) of a mark that is no more", x.told(15), 1);
        Check.due("told(14) then", x.told(14), 4);
        x.undo(1);
        Check.due("told(15) when it is there again", x.told(15), 2);
        x.take(0);
        Check.due("told(15) by numbers: 3 and 7 are apart by 1, too", x.told(15), 1);
        x.take(0);
        Check.due("told(15) of one mark", x.told(15), 0);
    }

    private static void promise2ofUndoing() {
        NearMarks x = new NearMarks();
        for (int n = 1; n <= 25; n++) {
            x.flip(n);
            Check.due("told(16) after " + n, x.told(16), Math.min(n, 20));
        }
        x.undo(7);
        Check.due("told(16) after undo(7)", x.told(16), 13);
    }

    private static void promise2refused() {
        NearMarks x = Make.with(1L);
        Check.due("told(17)", x.told(17), NearMarks.OUTSIDE);
        for (int what : WRONG) {
            Check.due("told(" + what + ")", x.told(what), NearMarks.OUTSIDE);
        }
    }

    private static void promise3() {
        NearMarks x = new NearMarks();
        x.flip(0);
        Check.due("hand()", x.hand(), 1L);
        x.flip(63);
        Check.due("hand() with the sign", x.hand(), Long.MIN_VALUE + 1);
        x.flip(62);
        Check.due("hand()", x.hand(), 0xC000_0000_0000_0001L);
    }

    private static void promise4() {
        NearMarks x = Make.with(0x11L, -1L);
        Check.due("markAt(0)", x.markAt(0), 0x11L);
        Check.due("markAt(1)", x.markAt(1), -1L);
        Check.due("markAt(2)", x.markAt(2), 0L);
        x.take(1);
        Check.due("markAt(1) of a taken one", x.markAt(1), 0L);
        for (int k : WRONG) {
            Check.due("markAt(" + k + ")", x.markAt(k), 0L);
        }
        NearMarks full = Make.full();
        Check.due("markAt(39)", full.markAt(39), 40L);
        Check.due("markAt(40)", full.markAt(40), 0L);
        Check.due("markAt(64)", full.markAt(64), 0L);
    }

    private static void promise5() {
        NearMarks x = Make.with(0x1L, 0xFL, 0xFFL, 0x8000_0001_0100_0010L);
        x.kind(1, 2);
        x.kind(2, 1);
        x.flip(1);
        long[][] due = {
            {0, 1, 2, 1, 1}, {2, 4, 3, 1, 1}, {1, 8, 7, 0, 1}, {0, 4, 5, 0, 0},
        };
        for (int k = 0; k < due.length; k++) {
            for (int what = 0; what < due[k].length; what++) {
                Check.due("mark(" + k + ", " + what + ")", x.mark(k, what), due[k][what]);
            }
            Check.due("mark(" + k + ", 5)", x.mark(k, 5), NearMarks.OUTSIDE);
            Check.due("mark(" + k + ", -1)", x.mark(k, -1), NearMarks.OUTSIDE);
        }
        x.cut(0x0101_0101_0101_0101L);
        Check.due("mark(0, 3) by reach 7", x.mark(0, 3), 3);
        Check.due("mark(1, 3) by reach 7", x.mark(1, 3), 2);
        Check.due("mark(2, 3) by reach 7", x.mark(2, 3), 2);
        Check.due("mark(3, 4) by eight parts", x.mark(3, 4), 1);
        x.hold(1);
        x.cut(0x11L);
        Check.due("mark(2, 4): a part of ones alike", x.mark(2, 4), 1);
        x.cut(0x9L);
        Check.due("mark(2, 4): a part of ones alike", x.mark(2, 4), 1);
        Check.due("mark(0, 4): none alike", x.mark(0, 4), 0);
        Check.due("mark(4, 0)", x.mark(4, 0), NearMarks.UNKNOWN);
        Check.due("mark(4, 9)", x.mark(4, 9), NearMarks.UNKNOWN);
        for (int k : WRONG) {
            Check.due("mark(" + k + ", 0)", x.mark(k, 0), NearMarks.UNKNOWN);
        }
    }

    private static void promise6() {
        NearMarks x = Make.with(0x1L, 0x10L, 0x8000_0000_0000_0000L);
        x.cut(0x8000_0000_0000_0011L);
        long[][] due = {{0, 4, 2}, {4, 59, 2}, {63, 1, 2}};
        for (int p = 0; p < due.length; p++) {
            for (int what = 0; what < due[p].length; what++) {
                Check.due("part(" + p + ", " + what + ")", x.part(p, what), due[p][what]);
            }
            Check.due("part(" + p + ", 3)", x.part(p, 3), NearMarks.OUTSIDE);
            Check.due("part(" + p + ", -1)", x.part(p, -1), NearMarks.OUTSIDE);
        }
        x.flip(4);
        Check.due("part(0, 2) of another hand", x.part(0, 2), 2);
        Check.due("part(1, 2) of another hand", x.part(1, 2), 1);
        Check.due("part(3, 0)", x.part(3, 0), NearMarks.UNKNOWN);
        Check.due("part(3, 7)", x.part(3, 7), NearMarks.UNKNOWN);
        for (int p : WRONG) {
            Check.due("part(" + p + ", 0)", x.part(p, 0), NearMarks.UNKNOWN);
        }
        x.cut(1L);
        Check.due("part(0, 1) of one part", x.part(0, 1), 64);
        Check.due("part(0, 2) of one part", x.part(0, 2), 1);
        Check.due("part(1, 0) of one part", x.part(1, 0), NearMarks.UNKNOWN);
    }
}
