/** Promises 1 to 6, sentence by sentence, at the bounds that each names. */
public final class MarksBoundsTest {
    private static final int[] FAR = {Integer.MIN_VALUE, Integer.MAX_VALUE};

    public static void main(String[] args) {
        promise1();
        promise2marksAndParts();
        promise2hand();
        promise2looks();
        promise2nearest();
        promise2deadAndTogether();
        promise2seen();
        promise2book();
        promise2undone();
        promise2outside();
        promise3();
        promise4();
        promise5ofKindAndBits();
        promise5ofApart();
        promise5ofReach();
        promise5ofParts();
        promise5refused();
        promise6ofBits();
        promise6ofMarks();
        promise6refused();
        Check.end();
    }

    private static void promise1() {
        Doc.promise(1, "No MARKS.");
        NearMarks x = new NearMarks();
        Check.due("told(0)", x.told(0), 0);
        Check.due("mark(0, 0)", x.mark(0, 0), NearMarks.UNKNOWN);
        Check.due("markAt(0)", x.markAt(0), 0L);
        Check.due("near(64)", x.near(64), 0L);
        Check.due("groups(64)", x.groups(64), 0);
        Check.due("take(0)", x.take(0), NearMarks.UNKNOWN);
        Check.due("hold(0)", x.hold(0), NearMarks.UNKNOWN);
        Check.due("kind(0, 0)", x.kind(0, 0), NearMarks.UNKNOWN);
        Check.due("undo(1)", x.undo(1), NearMarks.NOT);
        Check.due("goBack(0)", x.goBack(0), NearMarks.NOT);
        Check.due("goBack(1)", x.goBack(1), NearMarks.NOT);
        Check.due("tear()", x.tear(), 0);
        Check.due("the first put", x.put(0), 0);
    }

    private static void promise2marksAndParts() {
        Doc.promise(2, "0 MARKS,");
        NearMarks x = new NearMarks();
        for (int k = 0; k < 40; k++) {
            Check.due("told(0) of " + k, x.told(0), k);
            x.flip(k);
            x.put(0);
        }
        Check.due("told(0) of 40", x.told(0), 40);
        x.flip(40);
        x.put(0);
        Check.due("told(0) when full", x.told(0), 40);
        Doc.promise(2, "1 PARTS,");
        x.cut(1L);
        Check.due("told(1) of one", x.told(1), 1);
        x.cut(0x0101_0101_0101_0101L);
        Check.due("told(1) of eight", x.told(1), 8);
        x.cut(0x0101_0101_0101_0103L);
        Check.due("told(1) when nine are refused", x.told(1), 8);
    }

    private static void promise2hand() {
        Doc.promise(2, "2 how many BITS are 1 in the mark in hand,");
        NearMarks x = new NearMarks();
        Check.due("told(2) of none", x.told(2), 0);
        x.flip(63);
        Check.due("told(2) of the sign", x.told(2), 1);
        Make.hand(x, -1L);
        Check.due("told(2) of all", x.told(2), 64);
        Doc.promise(2, "3 the MARK it is (NONE),");
        Check.due("told(3) without marks", x.told(3), NearMarks.NONE);
        x.put(0);
        Check.due("told(3) of the one", x.told(3), 0);
        x.take(0);
        Check.due("told(3) of a taken one", x.told(3), NearMarks.NONE);
        NearMarks full = Make.fullOfBits();
        Check.due("told(3) of none of forty", full.told(3), NearMarks.NONE);
        full.flip(39);
        Check.due("told(3) of the last of forty", full.told(3), 39);
        full.take(0);
        Check.due("told(3), one number less", full.told(3), 38);
    }

    private static void promise2looks() {
        Doc.promise(2, "4 LOOKED AT,");
        NearMarks x = Make.with(0x1L, 0xFL, 0xF0F0_F0F0_F0F0_F0F0L);
        Check.due("told(4)", x.told(4), 2);
        Check.due("told(4) without marks", new NearMarks().told(4), 0);
        Check.due("told(4) of forty", Make.fullOfBits().told(4), 40);
        Doc.promise(2, "5 IN VAIN,");
        Check.due("told(5): 4 is beyond 3", x.told(5), 1);
        x.flip(0);
        Check.due("told(5): 3 is not beyond 3", x.told(5), 0);
        Check.due("told(5) without marks", new NearMarks().told(5), 0);
        NearMarks full = Make.fullOfBits();
        full.type(7, 255);
        Check.due("told(5) of forty", full.told(5), 40);
    }

    private static void promise2nearest() {
        Doc.promise(2, "6 the NEAREST MARK (NONE),");
        NearMarks x = new NearMarks();
        Check.due("told(6) without marks", x.told(6), NearMarks.NONE);
        x.put(1);
        Check.due("told(6) of one", x.told(6), 0);
        NearMarks full = Make.fullOfBits();
        full.flip(39);
        Check.due("told(6), the last of forty", full.told(6), 39);
        Doc.promise(2, "7 how far it is APART (NONE),");
        Check.due("told(7) without marks", new NearMarks().told(7), NearMarks.NONE);
        Check.due("told(7) of itself", x.told(7), 0);
        Make.hand(x, -1L);
        Check.due("told(7), 64 apart", x.told(7), 64);
        x.take(0);
        Check.due("told(7) when it is taken", x.told(7), NearMarks.NONE);
    }

    private static void promise2deadAndTogether() {
        Doc.promise(2, "8 how many BITS are DEAD (64 without MARKS),");
        NearMarks x = new NearMarks();
        Check.due("told(8) without marks", x.told(8), 64);
        x.put(0);
        Check.due("told(8) of one", x.told(8), 64);
        Make.put(x, -1L, 0);
        Check.due("told(8), none", x.told(8), 0);
        x.take(0);
        Check.due("told(8) of one again", x.told(8), 64);
        x.take(0);
        Check.due("told(8) of none again", x.told(8), 64);
        Doc.promise(2, "9 TOGETHER,");
        Check.due("told(9) without marks", x.told(9), NearMarks.NONE);
        Check.due("told(9) of 0 and 1", Make.with(0x0L, -1L).told(9), 1);
        Check.due("told(9) of 62 and 63", Make.with(0x0L, 3L << 62).told(9), 4031);
    }

    private static void promise2seen() {
        Doc.promise(2, "10 what is SEEN,");
        NearMarks x = Make.fullOfBits();
        for (int n = 0; n < 6; n++) {
            Check.due("told(10) of " + n, x.told(10), n);
            x.see(1);
        }
        x.see(1);
        Check.due("told(10) when full", x.told(10), 6);
        Doc.promise(2, "11 COULD BE: how many,");
        Check.due("told(11), all forty", x.told(11), 40);
        Check.due("told(11) without marks", new NearMarks().told(11), 0);
        x.tear();
        x.see(2);
        Check.due("told(11), none of forty", x.told(11), 0);
        Doc.promise(2, "12 the least,");
        Check.due("told(12), none of forty", x.told(12), NearMarks.NONE);
        x.tear();
        Check.due("told(12), all forty", x.told(12), 0);
        x.flip(39);
        x.see(0);
        Check.due("told(12), the last of forty", x.told(12), 39);
        Doc.promise(2, "13 ASK,");
        Check.due("told(13), one could be", x.told(13), NearMarks.NONE);
        x.tear();
        Check.due("told(13), all forty could be", x.told(13), 0);
        Check.due("told(13) without marks", new NearMarks().told(13), NearMarks.NONE);
    }

    private static void promise2book() {
        Doc.promise(2, "14 entries of THE BOOK,");
        NearMarks x = Make.with(0x0L, 0x1L);
        for (int n = 0; n < 20; n++) {
            Check.due("told(14) of " + n, x.told(14), n);
            x.write(0, 1, 1);
        }
        x.write(0, 1, 1);
        Check.due("told(14) when full", x.told(14), 20);
        Doc.promise(2, "15 WRONG,");
        Check.due("told(15), all are right", x.told(15), NearMarks.NONE);
        x.take(1);
        Check.due("told(15), all are wrong", x.told(15), 0);
        Check.due("told(15) without a book", new NearMarks().told(15), NearMarks.NONE);
    }

    private static void promise2undone() {
        Doc.promise(2, "16 how many can be undone.");
        NearMarks x = new NearMarks();
        for (int n = 0; n <= 20; n++) {
            Check.due("told(16) of " + n, x.told(16), n);
            x.turn();
        }
        Check.due("told(16) of more", x.told(16), 20);
        x.undo(20);
        Check.due("told(16) when all are undone", x.told(16), 0);
    }

    private static void promise2outside() {
        Doc.promise(2, "OUTSIDE.");
        NearMarks x = Make.full();
        Check.due("told(-1)", x.told(-1), NearMarks.OUTSIDE);
        Check.due("told(17)", x.told(17), NearMarks.OUTSIDE);
        for (int what : FAR) {
            Check.due("told(" + what + ")", x.told(what), NearMarks.OUTSIDE);
        }
    }

    private static void promise3() {
        Doc.promise(3, "The mark in hand (BIT 63 the sign).");
        NearMarks x = new NearMarks();
        x.flip(63);
        Check.due("hand() of bit 63", x.hand(), Long.MIN_VALUE);
        Check.holds("it is below 0", x.hand() < 0);
        x.flip(62);
        x.flip(63);
        Check.due("hand() of bit 62", x.hand(), 1L << 62);
        Make.hand(x, -1L);
        Check.due("hand() of all", x.hand(), -1L);
        x.flip(63);
        Check.due("hand() of all but the sign", x.hand(), Long.MAX_VALUE);
    }

    private static void promise4() {
        Doc.promise(4, "A MARK;");
        NearMarks x = Make.with(Long.MIN_VALUE, -1L, 0x1L);
        Check.due("markAt(0)", x.markAt(0), Long.MIN_VALUE);
        Check.due("markAt(2)", x.markAt(2), 0x1L);
        Doc.promise(4, "0: there is none.");
        Check.due("markAt(3)", x.markAt(3), 0L);
        Check.due("markAt(-1)", x.markAt(-1), 0L);
        Check.due("markAt(0) without marks", new NearMarks().markAt(0), 0L);
        x.take(2);
        Check.due("markAt(2) of a taken one", x.markAt(2), 0L);
        NearMarks full = Make.full();
        Check.due("markAt(39) of forty", full.markAt(39), 40L);
        Check.due("markAt(40) of forty", full.markAt(40), 0L);
        for (int k : FAR) {
            Check.due("markAt(" + k + ")", full.markAt(k), 0L);
        }
    }

    private static void promise5ofKindAndBits() {
        Doc.promise(5, "Of a MARK: what = 0 KIND,");
        NearMarks x = Make.with(0x0L, -1L, Long.MIN_VALUE);
        for (int kind = 0; kind < 3; kind++) {
            x.kind(2, kind);
            Check.due("mark(2, 0)", x.mark(2, 0), kind);
        }
        Doc.promise(5, "1 how many BITS are 1,");
        int[] ones = {0, 64, 1};
        for (int k = 0; k < 3; k++) {
            Check.due("mark(" + k + ", 1)", x.mark(k, 1), ones[k]);
        }
    }

    private static void promise5ofApart() {
        Doc.promise(5, "2 APART from the mark in hand,");
        NearMarks x = Make.with(0x0L, -1L);
        Check.due("mark(0, 2) of itself", x.mark(0, 2), 0);
        Check.due("mark(1, 2), all bits", x.mark(1, 2), 64);
        x.flip(63);
        Check.due("mark(0, 2) by the sign", x.mark(0, 2), 1);
        Check.due("mark(1, 2) by the sign", x.mark(1, 2), 63);
    }

    private static void promise5ofReach() {
        Doc.promise(5, "3 how many other MARKS are APART from it by REACH at most,");
        Check.due("mark(0, 3) of one alone", Make.with(0x0L).mark(0, 3), 0);
        NearMarks x = Make.with(0x0L, 0x7L, 0xFL);
        x.kind(1, 1);
        Check.due("mark(0, 3): 3 apart, of any KIND, not 4", x.mark(0, 3), 1);
        Check.due("mark(1, 3)", x.mark(1, 3), 2);
        x.cut(1L);
        Check.due("mark(0, 3) by REACH 0: not itself", x.mark(0, 3), 0);
        NearMarks full = Make.fullOfBits();
        Check.due("mark(39, 3) of forty, 2 apart", full.mark(39, 3), 39);
        full.cut(3L);
        Check.due("mark(39, 3) by REACH 1", full.mark(39, 3), 0);
        full.cut(7L);
        Check.due("mark(0, 3) by REACH 2", full.mark(0, 3), 39);
    }

    private static void promise5ofParts() {
        Doc.promise(5, "4 1 it has a PART alike with the mark in hand, 0 not.");
        NearMarks x = Make.with(0x0L, -1L);
        Check.due("mark(0, 4) of itself", x.mark(0, 4), 1);
        Check.due("mark(1, 4), all bits differ", x.mark(1, 4), 0);
        x.type(7, 255);
        Check.due("mark(1, 4), half of the last part alike", x.mark(1, 4), 0);
        x.type(6, 255);
        Check.due("mark(1, 4), the last part alike", x.mark(1, 4), 1);
        x.cut(1L);
        Check.due("mark(0, 4) by one part", x.mark(0, 4), 0);
        x.hold(0);
        Check.due("mark(0, 4) by one part, itself", x.mark(0, 4), 1);
    }

    private static void promise5refused() {
        Doc.promise(5, "UNKNOWN, OUTSIDE.");
        NearMarks x = Make.with(0x0L);
        Check.due("mark(1, 0)", x.mark(1, 0), NearMarks.UNKNOWN);
        Check.due("mark(-1, 0)", x.mark(-1, 0), NearMarks.UNKNOWN);
        Check.due("mark(0, 5)", x.mark(0, 5), NearMarks.OUTSIDE);
        Check.due("mark(0, -1)", x.mark(0, -1), NearMarks.OUTSIDE);
        Check.due("mark(1, 5): UNKNOWN first", x.mark(1, 5), NearMarks.UNKNOWN);
        for (int number : FAR) {
            Check.due("mark(" + number + ", 0)", x.mark(number, 0), NearMarks.UNKNOWN);
            Check.due("mark(0, " + number + ")", x.mark(0, number), NearMarks.OUTSIDE);
            Check.due("mark(" + number + ", " + number + ")", x.mark(number, number), NearMarks.UNKNOWN);
        }
        Check.due("mark(0, 0) without marks", new NearMarks().mark(0, 0), NearMarks.UNKNOWN);
        NearMarks full = Make.full();
        Check.due("mark(39, 1) of forty", full.mark(39, 1), 2);
        Check.due("mark(40, 1) of forty", full.mark(40, 1), NearMarks.UNKNOWN);
    }

    private static void promise6ofBits() {
        Doc.promise(6, "Of a PART: what = 0 the BIT it begins with,");
        NearMarks x = new NearMarks();
        x.cut(0xFEL << 56 | 1L);
        for (int p = 1; p < 8; p++) {
            Check.due("part(" + p + ", 0)", x.part(p, 0), 56 + p);
        }
        Check.due("part(0, 0)", x.part(0, 0), 0);
        Doc.promise(6, "1 how many BITS,");
        Check.due("part(0, 1)", x.part(0, 1), 57);
        for (int p = 1; p < 8; p++) {
            Check.due("part(" + p + ", 1)", x.part(p, 1), 1);
        }
        x.cut(1L);
        Check.due("part(0, 1) of one part", x.part(0, 1), 64);
    }

    private static void promise6ofMarks() {
        Doc.promise(6, "2 how many MARKS have it as the mark in hand.");
        Check.due("part(0, 2) without marks", new NearMarks().part(0, 2), 0);
        NearMarks full = Make.fullOfBits();
        full.kind(16, 1);
        int[] alike = {24, 24, 32, 40};
        for (int p = 0; p < 4; p++) {
            Check.due("part(" + p + ", 2) of forty", full.part(p, 2), alike[p]);
        }
        full.flip(63);
        Check.due("part(3, 2), none has it", full.part(3, 2), 0);
        full.flip(63);
        full.flip(16);
        Check.due("part(1, 2), one to SHUN alone has it", full.part(1, 2), 1);
        full.cut(1L);
        Check.due("part(0, 2) of one part", full.part(0, 2), 1);
    }

    private static void promise6refused() {
        Doc.promise(6, "UNKNOWN, OUTSIDE.");
        NearMarks x = new NearMarks();
        Check.due("part(3, 0), the last", x.part(3, 0), 48);
        Check.due("part(4, 0)", x.part(4, 0), NearMarks.UNKNOWN);
        Check.due("part(-1, 0)", x.part(-1, 0), NearMarks.UNKNOWN);
        Check.due("part(0, 3)", x.part(0, 3), NearMarks.OUTSIDE);
        Check.due("part(0, -1)", x.part(0, -1), NearMarks.OUTSIDE);
        Check.due("part(4, 3): UNKNOWN first", x.part(4, 3), NearMarks.UNKNOWN);
        for (int number : FAR) {
            Check.due("part(" + number + ", 0)", x.part(number, 0), NearMarks.UNKNOWN);
            Check.due("part(0, " + number + ")", x.part(0, number), NearMarks.OUTSIDE);
        }
        x.cut(0xFFL);
        Check.due("part(7, 0) of eight", x.part(7, 0), 7);
        Check.due("part(8, 0) of eight", x.part(8, 0), NearMarks.UNKNOWN);
        x.undo(1);
        Check.due("part(4, 0) when that is undone", x.part(4, 0), NearMarks.UNKNOWN);
    }
}
