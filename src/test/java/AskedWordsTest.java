/** Section 3, what is asked of the store: each word without marks, with one mark, with forty, at its bounds. */
public final class AskedWordsTest {
    private static final long FORTY = (1L << 40) - 1;

    public static void main(String[] args) {
        nothingChangesByAsking();
        nearWithin();
        nearByKind();
        lookedAt();
        inVain();
        allWithinReachAreLookedAt();
        nearest();
        kthNearest();
        groups();
        groupsByOthers();
        groupsNumbered();
        middle();
        middleOfHalf();
        wide();
        fewest();
        fewestByThreeCuts();
        fewestLooksAtItself();
        fewestOfLikeOnes();
        dead();
        together();
        togetherTheFirstPair();
        Check.end();
    }

    private static void nothingChangesByAsking() {
        Doc.section(3, "ASKED, nothing changes by it.");
        NearMarks x = Refusals.busy();
        for (int b = 0; b <= 64; b += 64) {
            x.near(b);
            x.groups(b);
            x.group(b, 0, 2);
            x.middle(b, 0);
        }
        x.nearest(39);
        x.apart(0, 39);
        x.mark(39, 3);
        x.part(0, 2);
        x.markAt(39);
        x.fewest(1, 0);
        x.fewest(8, 1);
        for (int what = 0; what <= 16; what++) {
            x.told(what);
        }
        Check.holds("all is as before", Make.whole(x).equals(Make.whole(Refusals.busy())));
    }

    private static void nearWithin() {
        Doc.section(3, "NEAR the mark in hand within b (0 .. 64): MARKS that are APART from it by b at most:");
        NearMarks none = new NearMarks();
        Check.due("near(0) of none", none.near(0), 0L);
        Check.due("near(64) of none", none.near(64), 0L);
        NearMarks one = Make.with(0x7FL);
        for (int b = 0; b <= 64; b++) {
            Check.due("near(" + b + ") of one, 7 apart", one.near(b), b < 7 ? 0L : 1L);
        }
        NearMarks far = Make.with(-1L, 0x0L);
        Check.due("near(63), one is 64 apart", far.near(63), 2L);
        Check.due("near(64)", far.near(64), 3L);
        Check.due("near(0), one is 0 apart", far.near(0), 2L);
        Check.due("near(65)", far.near(65), 0L);
        Check.due("near(-1)", far.near(-1), 0L);
        NearMarks full = Make.fullOfBits();
        Check.due("near(0) of forty", full.near(0), 0L);
        Check.due("near(1) of forty", full.near(1), FORTY);
        Check.due("near(64) of forty", full.near(64), FORTY);
    }

    private static void nearByKind() {
        Doc.section(3, "by KIND: one that is KEPT always, one to SHUN never,");
        NearMarks x = Make.with(0x0L, 0x3L);
        x.cut(0xFFL);
        Check.due("near(0) KEPT", x.near(0), 1L);
        Check.due("near(2) KEPT, under REACH, over half", x.near(2), 3L);
        x.kind(0, 1);
        x.kind(1, 1);
        Check.due("near(0) SHUN, 0 apart", x.near(0), 0L);
        Check.due("near(64) SHUN", x.near(64), 0L);
        Doc.section(3, "one to SEEK if b is REACH at least, or it is APART by half of b (cut) at most.");
        NearMarks y = Make.with(0x0L, 0x1L, 0x3L, 0x7L, 0xFL, 0x1FL, 0x3FL, 0x7FL);
        for (int k = 0; k < 8; k++) {
            y.kind(k, 2);
        }
        long cut = 0L;
        for (int reach = 0; reach < 8; reach++) {
            cut |= 1L << 8 * reach;
            y.cut(cut);
            for (int b = 0; b < 8; b++) {
                // Mark k is k bits apart: marks 0 to b, or 0 to the half of b.
                int farthest = b >= reach ? b : b / 2;
                Check.due("near(" + b + ") by REACH " + reach, y.near(b), (2L << farthest) - 1);
            }
            Check.due("near(64) by REACH " + reach, y.near(64), 255L);
        }
    }

    private static void lookedAt() {
        Doc.section(3, "LOOKED AT: MARKS that have a PART with all BITS as the mark in hand has them: how many.");
        NearMarks none = new NearMarks();
        Check.due("told(4) of none", none.told(4), 0);
        NearMarks one = Make.with(0x0L);
        Check.due("told(4) of one, itself", one.told(4), 1);
        for (int p = 0; p < 4; p++) {
            Check.due("told(4) with " + p + " parts unlike", one.told(4), 1);
            one.flip(16 * p + 15);
        }
        Check.due("told(4) with all parts unlike", one.told(4), 0);
        Check.due("mark(0, 4)", one.mark(0, 4), 0);
        one.flip(0);
        one.flip(15);
        Check.due("told(4), unlike in another bit", one.told(4), 0);
        one.flip(0);
        Check.due("told(4), part 0 alike", one.told(4), 1);
        one.kind(0, 1);
        Check.due("told(4) of one to SHUN", one.told(4), 1);
        NearMarks ones = Make.with(-1L);
        ones.type(0, 255);
        Check.due("told(4), half a part of ones alike", ones.told(4), 0);
        ones.type(1, 255);
        Check.due("told(4), a part of ones alike", ones.told(4), 1);
        NearMarks full = Make.fullOfBits();
        Check.due("told(4) of forty", full.told(4), 40);
        full.cut(1L);
        Check.due("told(4) of forty by one part", full.told(4), 0);
        full.cut(0x1_0000_0001L);
        full.flip(63);
        // The second part, 32 on, is unlike for all; the first is alike for marks 32 to 39.
        Check.due("told(4) of forty by two parts", full.told(4), 8);
    }

    private static void inVain() {
        Doc.section(3, "IN VAIN: those of them APART by more than REACH.");
        Check.due("told(5) of none", new NearMarks().told(5), 0);
        NearMarks one = Make.with(0x0L);
        for (int n = 0; n <= 16; n++) {
            Check.due("told(5), " + n + " apart", one.told(5), n > 3 ? 1 : 0);
            one.flip(n);
        }
        // Now 17 bits differ, in two parts of four; by one part it is not looked at, nor in vain.
        Check.due("told(5) by four parts", one.told(5), 1);
        one.cut(1L);
        Check.due("told(5), not looked at", one.told(5), 0);
        NearMarks full = Make.fullOfBits();
        Check.due("told(5) of forty, 1 apart", full.told(5), 0);
        full.type(7, 7);
        Check.due("told(5) of forty, 4 apart", full.told(5), 40);
        full.cut(0x0101_0101_0101_0101L);
        Check.due("told(5) of forty, 4 apart, REACH 7", full.told(5), 0);
    }

    private static void allWithinReachAreLookedAt() {
        Doc.section(3, "(All that are APART by REACH at most are LOOKED AT.)");
        long cut = 0L;
        for (int parts = 1; parts <= 8; parts++) {
            cut |= 1L << 8 * (parts - 1);
            NearMarks x = Make.with(0x0L);
            x.cut(cut);
            // A bit in each part but the last, as bad as it can be: the last part is alike.
            for (int p = 0; p < parts - 1; p++) {
                x.flip(8 * p + 7);
                Check.due(p + 1 + " of " + parts + " parts unlike", x.told(4), 1);
            }
            x.flip(63);
            Check.due("all of " + parts + " parts unlike", x.told(4), 0);
        }
    }

    private static void nearest() {
        Doc.section(3, "NEAREST: the least APART one (of like ones the least), of all KINDS;");
        NearMarks none = new NearMarks();
        Check.due("told(6) of none", none.told(6), NearMarks.NONE);
        Check.due("told(7) of none", none.told(7), NearMarks.NONE);
        NearMarks one = Make.with(-1L);
        Check.due("told(6) of one, 64 apart", one.told(6), 0);
        Check.due("told(7) of one, 64 apart", one.told(7), 64);
        NearMarks full = Make.fullOfBits();
        Check.due("told(6) of forty like ones", full.told(6), 0);
        Check.due("told(7) of forty like ones", full.told(7), 1);
        full.kind(39, 1);
        full.flip(39);
        Check.due("told(6), one to SHUN", full.told(6), 39);
        Check.due("told(7), one to SHUN", full.told(7), 0);
        full.kind(39, 2);
        Check.due("told(6), one to SEEK", full.told(6), 39);
        full.take(39);
        Check.due("told(6) without it", full.told(6), 0);
        Check.due("told(7) without it", full.told(7), 2);
    }

    private static void kthNearest() {
        Doc.section(3, "the k-th NEAREST: so in order.");
        Check.due("nearest(0) of none", new NearMarks().nearest(0), NearMarks.NONE);
        NearMarks one = Make.with(-1L);
        Check.due("nearest(0) of one", one.nearest(0), 0);
        Check.due("nearest(1) of one", one.nearest(1), NearMarks.NONE);
        NearMarks full = Make.fullOfBits();
        full.kind(20, 1);
        full.flip(20);
        full.flip(30);
        // Marks 20 and 30 are 1 apart, all others 3.
        int[] order = new int[40];
        order[0] = 20;
        order[1] = 30;
        int next = 2;
        for (int k = 0; k < 40; k++) {
            if (k != 20 && k != 30) {
                order[next++] = k;
            }
        }
        for (int k = 0; k < 40; k++) {
            Check.due("nearest(" + k + ") of forty", full.nearest(k), order[k]);
        }
        Check.due("nearest(40) of forty", full.nearest(40), NearMarks.NONE);
        Check.due("nearest(-1) of forty", full.nearest(-1), NearMarks.NONE);
    }

    private static void groups() {
        Doc.section(3, "GROUPS within b: MARKS, of any KIND, that are APART by b at most,");
        NearMarks none = new NearMarks();
        Check.due("groups(0) of none", none.groups(0), 0);
        Check.due("groups(64) of none", none.groups(64), 0);
        NearMarks one = Make.with(0x5L);
        Check.due("groups(0) of one", one.groups(0), 1);
        Check.due("groups(64) of one", one.groups(64), 1);
        NearMarks far = Make.with(0x0L, -1L);
        Check.due("groups(63) of two, 64 apart", far.groups(63), 2);
        Check.due("groups(64) of two, 64 apart", far.groups(64), 1);
        NearMarks full = Make.fullOfBits();
        for (int k = 0; k < 40; k++) {
            full.kind(k, k % 3);
        }
        Check.due("groups(0) of forty", full.groups(0), 40);
        Check.due("groups(1) of forty, 2 apart", full.groups(1), 40);
        Check.due("groups(2) of forty, 2 apart", full.groups(2), 1);
        Check.due("group(2, 0, 0)", full.group(2, 0, 0), 40);
        Check.due("group(1, 39, 1)", full.group(1, 39, 1), 39);
    }

    private static void groupsByOthers() {
        Doc.section(3, "or so by others;");
        // A chain of forty, a bit at a time, whose ends are 39 apart; the even ones come first.
        NearMarks x = new NearMarks();
        for (int k = 0; k < 40; k++) {
            int step = k < 20 ? 2 * k : 2 * (k - 20) + 1;
            Make.put(x, (1L << step) - 1, k % 3);
        }
        Check.due("groups(0)", x.groups(0), 40);
        Check.due("groups(1)", x.groups(1), 1);
        Check.due("group(1, 0, 2)", x.group(1, 0, 2), 39);
        // Without the mark of 20 bits it falls in two.
        x.take(10);
        Check.due("groups(1) of a broken chain", x.groups(1), 2);
        Check.due("group(1, 0, 0)", x.group(1, 0, 0), 20);
        Check.due("group(1, 1, 0)", x.group(1, 1, 0), 19);
        Check.due("groups(2) of a broken chain", x.groups(2), 1);
    }

    private static void groupsNumbered() {
        Doc.section(3, "numbered by their least MARK.");
        NearMarks x = Make.with(0xF00L, 0x0L, 0xFFF0_0000L, 0x1L, 0xF01L, 0xFFF0_0001L, 0x3L);
        int[][] due = {{2, 0}, {3, 1}, {2, 2}};
        for (int g = 0; g < due.length; g++) {
            Check.due("group(1, " + g + ", 0)", x.group(1, g, 0), due[g][0]);
            Check.due("group(1, " + g + ", 1)", x.group(1, g, 1), due[g][1]);
        }
        Check.due("group(1, 3, 0)", x.group(1, 3, 0), NearMarks.UNKNOWN);
    }

    private static void middle() {
        Doc.section(3, "MIDDLE of a GROUP: BIT by BIT as more than half of its MARKS have it");
        Check.due("middle(0, 0) of none", new NearMarks().middle(0, 0), 0L);
        NearMarks one = Make.with(0x8000_0000_0000_0001L);
        Check.due("middle(0, 0) of one is itself", one.middle(0, 0), 0x8000_0000_0000_0001L);
        Check.due("middle(64, 0) of one is itself", one.middle(64, 0), 0x8000_0000_0000_0001L);
        NearMarks three = Make.with(-1L, 0x0L, Long.MIN_VALUE);
        Check.due("middle(64, 0): two of three have bit 63", three.middle(64, 0), Long.MIN_VALUE);
        Check.due("middle(1, 1): of the group alone, just half", three.middle(1, 1), 0L);
        Check.due("middle(1, 0): of the group alone", three.middle(1, 0), -1L);
    }

    private static void middleOfHalf() {
        Doc.section(3, "(0, if just half).");
        NearMarks two = Make.with(-1L, 0x0L);
        Check.due("middle(64, 0) of two", two.middle(64, 0), 0L);
        // Bits 0 to 5 count to forty; 19 have bit 20 besides, 20 bit 21, 21 bit 22, 40 bit 23.
        NearMarks full = new NearMarks();
        for (int k = 0; k < 40; k++) {
            long more = (k < 19 ? 1L << 20 : 0L) | (k < 20 ? 1L << 21 : 0L) | (k < 21 ? 1L << 22 : 0L) | 1L << 23;
            Make.put(full, k | more, 0);
        }
        Check.due("middle(64, 0) of forty", full.middle(64, 0), 1L << 22 | 1L << 23);
    }

    private static void wide() {
        Doc.section(3, "WIDE: the greatest APART of two of it.");
        Check.due("group(64, 0, 2) of one", Make.with(-1L).group(64, 0, 2), 0);
        NearMarks two = Make.with(-1L, 0x0L);
        Check.due("group(64, 0, 2) of two, 64 apart", two.group(64, 0, 2), 64);
        Check.due("group(63, 1, 2) of one each", two.group(63, 1, 2), 0);
        NearMarks full = Make.fullOfBits();
        Check.due("group(2, 0, 2) of forty", full.group(2, 0, 2), 2);
        full.take(38);
        Make.put(full, 1L << 39 | 3L << 62, 0);
        // It is 2 apart from the mark of bit 39 alone, 4 from all others.
        Check.due("group(2, 0, 2) by the last", full.group(2, 0, 2), 4);
    }

    private static void fewest() {
        Doc.section(3, "FEWEST: of three CUTS into p PARTS (1 .. 8), of 64 / p BITS (cut) each,");
        NearMarks full = Make.fullOfBits();
        // Two marks differ in two bits: with three parts or more one is alike; by halves 0 to 31, 32 to 39.
        Check.due("fewest(1, 0) of forty", full.fewest(1, 0), 40);
        Check.due("fewest(2, 0) of forty", full.fewest(2, 0), 32 * 32 + 8 * 8);
        for (int p = 3; p <= 8; p++) {
            Check.due("fewest(" + p + ", 0) of forty", full.fewest(p, 0), 1600);
            Check.due("fewest(" + p + ", 1) of forty", full.fewest(p, 1), 0);
        }
        Check.due("fewest(0, 0)", full.fewest(0, 0), NearMarks.OUTSIDE);
        Check.due("fewest(9, 0)", full.fewest(9, 0), NearMarks.OUTSIDE);
        NearMarks none = new NearMarks();
        for (int p = 1; p <= 8; p++) {
            Check.due("fewest(" + p + ", 0) of none", none.fewest(p, 0), 0);
            Check.due("fewest(" + p + ", 1) of none", none.fewest(p, 1), 0);
        }
    }

    private static void fewestByThreeCuts() {
        Doc.section(3, "but that as many PARTS as are left over have one more: 0 the first ones, 1 the last ones,");
        bordersAre(new int[][] {{0, 22, 43, 64}, {0, 21, 42, 64}, {0, 22, 43, 64}});
        bordersAre(new int[][] {
            {0, 10, 19, 28, 37, 46, 55, 64}, {0, 9, 18, 27, 36, 45, 54, 64}, {0, 10, 19, 28, 37, 46, 55, 64}});
        Doc.section(3, "2 PARTS 0, 2, 4 .. and then 1, 3, 5 ..:");
        bordersAre(new int[][] {
            {0, 13, 26, 39, 52, 64}, {0, 12, 25, 38, 51, 64}, {0, 13, 26, 39, 51, 64}});
        bordersAre(new int[][] {
            {0, 11, 22, 33, 44, 54, 64}, {0, 10, 20, 31, 42, 53, 64}, {0, 11, 22, 33, 43, 54, 64}});
    }

    /** The cuts as they are, and with each border off by one: what the true ones answer for such marks. */
    private static void bordersAre(int[][] cuts) {
        int p = cuts[0].length - 1;
        for (int[] begins : cuts) {
            fewestOfShapes(cuts, begins);
            for (int border = 1; border < p; border++) {
                for (int off = -1; off <= 1; off += 2) {
                    int[] shifted = begins.clone();
                    shifted[border] += off;
                    fewestOfShapes(cuts, shifted);
                }
            }
        }
    }

    /**
     * Two marks that differ in one bit of each part, its first or its last: one is not looked at for the
     * other by a cut that has one of these bits in each of its parts.
     */
    private static void fewestOfShapes(int[][] cuts, int[] begins) {
        int p = begins.length - 1;
        for (int shape = 0; shape < 1 << p; shape++) {
            long bits = 0L;
            for (int part = 0; part < p; part++) {
                bits |= 1L << ((shape >> part & 1) == 0 ? begins[part] : begins[part + 1] - 1);
            }
            int best = NearMarks.NONE;
            for (int cut = 2; cut >= 0; cut--) {
                best = isInEachPart(bits, cuts[cut]) ? cut : best;
            }
            NearMarks x = Make.with(0x0L, bits);
            Check.due("fewest(" + p + ", 0) of bits " + bits, x.fewest(p, 0), best == NearMarks.NONE ? 4 : 2);
            Check.due("fewest(" + p + ", 1) of bits " + bits, x.fewest(p, 1), Math.max(best, 0));
        }
    }

    private static boolean isInEachPart(long bits, int[] begins) {
        for (int part = 0; part + 1 < begins.length; part++) {
            boolean found = false;
            for (int bit = begins[part]; bit < begins[part + 1]; bit++) {
                found |= (bits >>> bit & 1L) != 0;
            }
            if (!found) {
                return false;
            }
        }
        return true;
    }

    private static void fewestLooksAtItself() {
        Doc.section(3, "the one by which fewest MARKS are LOOKED AT for all MARKS together (each looks at itself, too);");
        NearMarks one = Make.with(-1L);
        for (int p = 1; p <= 8; p++) {
            Check.due("fewest(" + p + ", 0) of one", one.fewest(p, 0), 1);
        }
        NearMarks two = Make.with(0x0L, -1L);
        NearMarks near = Make.with(-1L, -2L);
        near.kind(0, 1);
        near.kind(1, 2);
        for (int p = 1; p <= 8; p++) {
            Check.due("fewest(" + p + ", 0) of two, all unlike", two.fewest(p, 0), 2);
            Check.due("fewest(" + p + ", 0) of two near ones", near.fewest(p, 0), p == 1 ? 2 : 4);
        }
    }

    private static void fewestOfLikeOnes() {
        Doc.section(3, "of like ones the least.");
        NearMarks one = Make.with(0x5L);
        for (int p = 1; p <= 8; p++) {
            Check.due("fewest(" + p + ", 1) of one", one.fewest(p, 1), 0);
        }
        // Six parts: by CUT 0 bits 44 to 53 are alike, by CUT 1 and by CUT 2 no part is.
        long bits = 1L << 9 | 1L << 10 | 1L << 21 | 1L << 22 | 1L << 31 | 1L << 42 | 1L << 43 | 1L << 63;
        NearMarks two = Make.with(0x0L, bits);
        Check.due("fewest(6, 0), CUT 1 and CUT 2 alike", two.fewest(6, 0), 2);
        Check.due("fewest(6, 1), CUT 1 and CUT 2 alike", two.fewest(6, 1), 1);
        Check.due("fewest(6, 1), all three alike", Make.with(0x0L, 0x1L).fewest(6, 1), 0);
    }

    private static void dead() {
        Doc.section(3, "DEAD: a BIT that all MARKS have alike.");
        Check.due("told(8) of none", new NearMarks().told(8), 64);
        Check.due("told(8) of one", Make.with(0x5L).told(8), 64);
        Check.due("told(8) of two, 64 apart", Make.with(0x0L, -1L).told(8), 0);
        Check.due("told(8) of two, 1 apart, ones", Make.with(-1L, Long.MAX_VALUE).told(8), 63);
        Check.due("told(8) of forty", Make.fullOfBits().told(8), 24);
        // Bit 39 is alive by the last of forty alone.
        NearMarks full = Make.fullOfBits();
        full.take(39);
        Check.due("told(8) of thirty-nine", full.told(8), 25);
    }

    private static void together() {
        Doc.section(3, "TOGETHER: two BITS, neither of them DEAD, that are alike in all MARKS, or unlike in all;");
        Check.due("told(9) of none", new NearMarks().told(9), NearMarks.NONE);
        Check.due("told(9) of one", Make.with(-1L).told(9), NearMarks.NONE);
        Check.due("told(9) of two, 1 apart", Make.with(-1L, -2L).told(9), NearMarks.NONE);
        Check.due("told(9) of two, 2 apart", Make.with(0x1L, 0x2L).told(9), 1);
        Check.due("told(9) of forty", Make.fullOfBits().told(9), NearMarks.NONE);
        NearMarks alike = Make.fullOfBits();
        // Mark 39 gets bit 63 besides: then bits 39 and 63 are alike in all forty.
        alike.take(39);
        Make.put(alike, 1L << 39 | 1L << 63, 0);
        Check.due("told(9) alike in forty", alike.told(9), 64 * 39 + 63);
        NearMarks unlike = new NearMarks();
        for (int k = 0; k < 40; k++) {
            Make.put(unlike, 1L << k | (k == 0 ? 0L : 1L << 63), 0);
        }
        Check.due("told(9) unlike in forty", unlike.told(9), 63);
        unlike.take(0);
        Check.due("told(9): bits 0 and 63 are dead without mark 0", unlike.told(9), NearMarks.NONE);
    }

    private static void togetherTheFirstPair() {
        Doc.section(3, "the first pair: 64 times the lesser and the other (least so); NONE.");
        Check.due("told(9), the least pair", Make.with(0x0L, -1L).told(9), 1);
        Check.due("told(9), the greatest pair", Make.with(0x0L, 3L << 62).told(9), 64 * 62 + 63);
        Check.due("told(9), 0 and 63", Make.with(0x0L, 1L << 63 | 1L).told(9), 63);
        // 3 and 60 go together, and 4 and 5: the lesser of the first is less.
        NearMarks x = Make.with(0x0L, 1L << 3 | 1L << 60, 0x30L);
        Check.due("told(9), by the lesser first", x.told(9), 64 * 3 + 60);
        Check.due("told(9), then by the other", Make.with(0x0L, 0x15L).told(9), 2);
    }
}
