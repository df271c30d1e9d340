/** Sections 1 and 2: the mark in hand, the store, the cut, and the deeds, at their bounds. */
public final class StoreWordsTest {
    public static void main(String[] args) {
        theHandHas64Bits();
        bitsAreDots();
        allZeroAtFirst();
        fortyMarksAtMost();
        numberedAsTheyCame();
        unlikeOnes();
        kinds();
        apart();
        partsOfACut();
        oneToEightParts();
        fourPartsAtFirst();
        reach();
        typed();
        flipped();
        turned();
        mirrored();
        heldAndPut();
        cutTakenKind();
        Check.end();
    }

    private static void theHandHas64Bits() {
        Doc.section(1, "THE MARK in hand has 64 BITS, 0 to 63;");
        NearMarks x = new NearMarks();
        for (int bit = 0; bit < 64; bit++) {
            Check.due("flip(" + bit + ")", x.flip(bit), bit + 1);
        }
        Check.due("hand() of all", x.hand(), -1L);
        Check.due("flip(64)", x.flip(64), NearMarks.OUTSIDE);
        Check.due("flip(-1)", x.flip(-1), NearMarks.OUTSIDE);
        Check.due("hand() still", x.hand(), -1L);
    }

    private static void bitsAreDots() {
        Doc.section(1, "BIT 8 r and c is the DOT in ROW r and COLUMN c of a picture of 8 by 8.");
        for (int r = 0; r < 8; r++) {
            for (int c = 0; c < 8; c++) {
                NearMarks x = new NearMarks();
                x.type(r, 1 << c);
                Check.due("hand() of row " + r + ", column " + c, x.hand(), 1L << 8 * r + c);
                Check.due("flip of that bit", x.flip(8 * r + c), 0);
            }
        }
    }

    private static void allZeroAtFirst() {
        Doc.section(1, "(All 0 at first.)");
        NearMarks x = new NearMarks();
        Check.due("hand()", x.hand(), 0L);
        Check.due("told(2)", x.told(2), 0);
        x.put(0);
        Check.due("markAt(0) of it", x.markAt(0), 0L);
        Check.due("told(0)", x.told(0), 1);
    }

    private static void fortyMarksAtMost() {
        Doc.section(1, "THE STORE holds MARKS (40 at most),");
        NearMarks x = new NearMarks();
        for (int k = 0; k < 40; k++) {
            x.flip(k);
            Check.due("put of the " + k + "th", x.put(k % 3), k);
        }
        x.flip(40);
        Check.due("put of one more", x.put(0), NearMarks.FULL);
        Check.due("told(0)", x.told(0), 40);
        Check.due("markAt(39)", x.markAt(39), (1L << 40) - 1);
        Check.due("markAt(40)", x.markAt(40), 0L);
        Check.due("take(39)", x.take(39), 39);
        Check.due("put in its place", x.put(1), 39);
        Check.due("put of one more again", x.put(1), NearMarks.NOT);
        x.flip(41);
        Check.due("put of one more, unlike", x.put(1), NearMarks.FULL);
        x.undo(3);
        Check.due("told(0) when put and take are undone", x.told(0), 40);
        Check.due("put when undone", x.put(0), NearMarks.FULL);
        Check.due("drift(20)", x.drift(20), 40);
    }

    private static void numberedAsTheyCame() {
        Doc.section(1, "numbered as they came,");
        NearMarks x = Make.with(0x9L, 0x1L, -1L, 0x0L);
        long[] came = {0x9L, 0x1L, -1L, 0x0L};
        for (int k = 0; k < came.length; k++) {
            Check.due("markAt(" + k + ")", x.markAt(k), came[k]);
        }
        x.take(0);
        Make.put(x, 0x9L, 0);
        long[] then = {0x1L, -1L, 0x0L, 0x9L};
        for (int k = 0; k < then.length; k++) {
            Check.due("markAt(" + k + ") then", x.markAt(k), then[k]);
        }
    }

    private static void unlikeOnes() {
        Doc.section(1, "unlike ones,");
        NearMarks x = Make.fullOfBits();
        x.take(20);
        for (int k : new int[] {0, 19, 20, 38}) {
            x.hold(k);
            Check.due("put of mark " + k + " again", x.put(1), NearMarks.NOT);
            Check.due("its kind", x.mark(k, 0), 0);
        }
        Check.due("told(0)", x.told(0), 39);
        // Unlike in the sign alone.
        NearMarks y = Make.with(0x5L);
        y.hold(0);
        y.flip(63);
        Check.due("put of one that differs in bit 63", y.put(0), 1);
    }

    private static void kinds() {
        Doc.section(1, "each of a KIND: 0 KEPT, 1 SHUN, 2 SEEK.");
        NearMarks x = new NearMarks();
        for (int kind = 0; kind < 3; kind++) {
            x.flip(kind);
            x.put(kind);
            Check.due("mark(" + kind + ", 0)", x.mark(kind, 0), kind);
        }
        // From 7 they are 2, 1, 0 apart; REACH is 3.
        Check.due("near(2): KEPT always, SHUN never, SEEK by half", x.near(2), 0x5L);
        x.hold(0);
        Check.due("near(2) from the first: SEEK is farther than half", x.near(2), 0x1L);
        Check.due("near(3) from the first: SEEK by REACH", x.near(3), 0x5L);
    }

    private static void apart() {
        Doc.section(1, "APART of two marks: in how many BITS they differ.");
        NearMarks x = Make.with(0x0L, -1L);
        for (int n = 0; n <= 64; n++) {
            Check.due("mark(0, 2) of " + n + " bits", x.mark(0, 2), n);
            Check.due("mark(1, 2) of " + n + " bits", x.mark(1, 2), 64 - n);
            if (n < 64) {
                x.flip(63 - n);
            }
        }
        Check.due("apart(0, 1)", x.apart(0, 1), 64);
    }

    private static void partsOfACut() {
        Doc.section(1, "PARTS: THE CUT tells from which BIT on each PART begins, the first from 0 on,");
        NearMarks x = new NearMarks();
        x.cut(0xE000_0000_0000_0003L);
        int[] begins = {0, 1, 61, 62, 63};
        for (int p = 0; p < begins.length; p++) {
            Check.due("part(" + p + ", 0)", x.part(p, 0), begins[p]);
        }
        Doc.section(1, "each up to where the next begins, the last up to 63:");
        int[] widths = {1, 60, 1, 1, 1};
        for (int p = 0; p < widths.length; p++) {
            Check.due("part(" + p + ", 1)", x.part(p, 1), widths[p]);
        }
        Check.due("part(5, 0)", x.part(5, 0), NearMarks.UNKNOWN);
        x.put(0);
        int[][] flips = {{0, 0}, {1, 1}, {60, 1}, {61, 2}, {62, 3}, {63, 4}};
        for (int[] flip : flips) {
            x.flip(flip[0]);
            for (int p = 0; p < 5; p++) {
                Check.due("part(" + p + ", 2) by bit " + flip[0], x.part(p, 2), p == flip[1] ? 0 : 1);
            }
            x.flip(flip[0]);
        }
    }

    private static void oneToEightParts() {
        Doc.section(1, "1 to 8 PARTS.");
        NearMarks x = new NearMarks();
        long begins = 0L;
        for (int parts = 1; parts <= 8; parts++) {
            begins |= 1L << 9 * (parts - 1);
            Check.due("cut into " + parts, x.cut(begins), parts - 1);
            Check.due("told(1)", x.told(1), parts);
            Check.due("the last part's begin", x.part(parts - 1, 0), 9 * (parts - 1));
            Check.due("the last part's bits", x.part(parts - 1, 1), 64 - 9 * (parts - 1));
            Check.due("no part more", x.part(parts, 0), NearMarks.UNKNOWN);
        }
        Check.due("cut into 9", x.cut(begins | 2L), NearMarks.OUTSIDE);
        Check.due("cut into none", x.cut(0L), NearMarks.OUTSIDE);
        Check.due("told(1) still", x.told(1), 8);
        Check.due("cut into 1 again", x.cut(1L), 0);
        Check.due("part(0, 1)", x.part(0, 1), 64);
        Check.due("part(1, 0)", x.part(1, 0), NearMarks.UNKNOWN);
    }

    private static void fourPartsAtFirst() {
        Doc.section(1, "(4 at first, from 0, 16, 32, 48.)");
        NearMarks x = new NearMarks();
        Check.due("told(1)", x.told(1), 4);
        for (int p = 0; p < 4; p++) {
            Check.due("part(" + p + ", 0)", x.part(p, 0), 16 * p);
            Check.due("part(" + p + ", 1)", x.part(p, 1), 16);
        }
        Check.due("part(4, 0)", x.part(4, 0), NearMarks.UNKNOWN);
    }

    private static void reach() {
        Doc.section(1, "REACH is how many PARTS there are, less 1.");
        // Mark k is k bits from mark 0, which is in hand, too.
        NearMarks x = Make.with(0x0L, 0x1L, 0x3L, 0x7L, 0xFL, 0x1FL, 0x3FL, 0x7FL, 0xFFL);
        long begins = 0L;
        for (int parts = 1; parts <= 8; parts++) {
            // The marks differ in the first part alone: all have a part alike, once there are two.
            begins |= parts == 1 ? 1L : 1L << 55 + parts;
            Check.due("cut into " + parts, x.cut(begins), parts - 1);
            Check.due("mark(0, 3): others within REACH", x.mark(0, 3), parts - 1);
            Check.due("told(4)", x.told(4), parts == 1 ? 1 : 9);
            Check.due("told(5): beyond REACH", x.told(5), parts == 1 ? 0 : 9 - parts);
        }
    }

    private static void typed() {
        Doc.section(2, "TYPED: a ROW of the mark in hand becomes 8 DOTS (a SET, 0 .. 255).");
        NearMarks x = Make.with(-1L);
        Make.hand(x, -1L);
        for (int r = 0; r < 8; r++) {
            Check.due("type(" + r + ", 0)", x.type(r, 0), 56);
            Check.due("hand() then", x.hand(), ~(255L << 8 * r));
            Check.due("type(" + r + ", 255)", x.type(r, 255), 64);
            Check.due("hand() again", x.hand(), -1L);
        }
        Check.due("markAt(0) is not typed", x.markAt(0), -1L);
    }

    private static void flipped() {
        Doc.section(2, "FLIPPED: a BIT.");
        for (int bit = 0; bit < 64; bit++) {
            NearMarks x = new NearMarks();
            x.flip(bit);
            Check.due("hand() of bit " + bit, x.hand(), 1L << bit);
            x.flip(bit);
            Check.due("hand() of it twice", x.hand(), 0L);
        }
    }

    private static void turned() {
        Doc.section(2, "TURNED: ROW r, COLUMN c comes to ROW c, COLUMN 7 less r.");
        // The corners go round: 0, 0 to 0, 7 to 7, 7 to 7, 0, and wrap to 0, 0.
        NearMarks x = new NearMarks();
        x.flip(0);
        int[] corners = {7, 63, 56, 0};
        for (int corner : corners) {
            x.turn();
            Check.due("hand() at corner " + corner, x.hand(), 1L << corner);
        }
        NearMarks row = new NearMarks();
        row.type(0, 255);
        Check.due("turn() of row 0", row.turn(), 0x80);
        Check.due("it is column 7", row.hand(), 0x8080_8080_8080_8080L);
        Check.due("turn() of column 7", row.turn(), 0);
        Check.due("it is row 7", row.hand(), 0xFF00_0000_0000_0000L);
        Check.due("turn() of row 7", row.turn(), 1);
        Check.due("it is column 0", row.hand(), 0x0101_0101_0101_0101L);
        Check.due("turn() of column 0", row.turn(), 255);
        Check.due("it is row 0 again", row.hand(), 255L);
        Make.hand(row, -1L);
        Check.due("turn() of all", row.turn(), 255);
        Check.due("hand() of all", row.hand(), -1L);
    }

    private static void mirrored() {
        Doc.section(2, "MIRRORED: COLUMN c comes to 7 less c.");
        NearMarks x = new NearMarks();
        x.flip(0);
        x.flip(63);
        Check.due("mirror()", x.mirror(), 0x80);
        Check.due("hand()", x.hand(), 1L << 7 | 1L << 56);
        Check.due("mirror() back", x.mirror(), 1);
        Check.due("hand() back", x.hand(), 1L | 1L << 63);
        Make.hand(x, 0x0101_0101_0101_0101L);
        Check.due("mirror() of column 0", x.mirror(), 0x80);
        Check.due("it is column 7", x.hand(), 0x8080_8080_8080_8080L);
        Make.hand(x, -1L);
        Check.due("mirror() of all", x.mirror(), 255);
    }

    private static void heldAndPut() {
        Doc.section(2, "HELD: a MARK becomes the mark in hand.");
        NearMarks x = Make.full();
        for (int k : new int[] {0, 39}) {
            x.hold(k);
            Check.due("hand() held", x.hand(), k + 1L);
            Check.due("markAt(" + k + ") stays", x.markAt(k), k + 1L);
        }
        Check.due("told(0) stays", x.told(0), 40);
        Doc.section(2, "PUT: the mark in hand is a MARK.");
        NearMarks y = new NearMarks();
        y.flip(63);
        y.put(0);
        Check.due("markAt(0)", y.markAt(0), Long.MIN_VALUE);
        Check.due("told(3)", y.told(3), 0);
        Check.due("hand() stays", y.hand(), Long.MIN_VALUE);
        y.flip(63);
        Check.due("markAt(0) is not flipped with the hand", y.markAt(0), Long.MIN_VALUE);
    }

    private static void cutTakenKind() {
        Doc.section(2, "CUT: other PARTS.");
        NearMarks x = Make.with(0x3L, 0x30L);
        x.cut(0x11L);
        Check.due("told(1)", x.told(1), 2);
        Check.due("told(0) stays", x.told(0), 2);
        Check.due("hand() stays", x.hand(), 0L);
        Doc.section(2, "TAKEN: a MARK goes.");
        x.take(0);
        Check.due("told(0)", x.told(0), 1);
        Check.due("markAt(0)", x.markAt(0), 0x30L);
        Check.due("markAt(1)", x.markAt(1), 0L);
        Doc.section(2, "KIND: a MARK is of another.");
        x.kind(0, 2);
        Check.due("mark(0, 0)", x.mark(0, 0), 2);
        Check.due("markAt(0) stays", x.markAt(0), 0x30L);
    }
}
