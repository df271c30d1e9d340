/** Promises 18 to 24: near, nearest, apart, groups, group, middle, fewest. */
public final class AskedTest {
    private static final int[] WRONG = {Integer.MIN_VALUE, -1, Integer.MAX_VALUE};

    public static void main(String[] args) {
        promise18();
        promise19();
        promise20();
        promise21();
        promise22();
        promise23();
        promise24();
        nothingChangesByAsking();
        Check.end();
    }

    private static void promise18() {
        // From 0 they are apart by 0, 1, 2, 3, 4 and 64.
        NearMarks x = Make.with(0x0L, 0x1L, 0x3L, 0x7L, 0xFL, -1L);
        Check.due("near(0)", x.near(0), 0x1L);
        Check.due("near(3)", x.near(3), 0xFL);
        Check.due("near(63)", x.near(63), 0x1FL);
        Check.due("near(64)", x.near(64), 0x3FL);
        for (int k = 0; k < 6; k++) {
            x.kind(k, 1);
        }
        Check.due("near(64) of shunned ones", x.near(64), 0L);
        for (int k = 0; k < 6; k++) {
            x.kind(k, 2);
        }
        Check.due("near(0) of sought ones", x.near(0), 0x1L);
        Check.due("near(1) of sought ones", x.near(1), 0x1L);
        Check.due("near(2) of sought ones", x.near(2), 0x3L);
        Check.due("near(3), the reach", x.near(3), 0xFL);
        Check.due("near(4)", x.near(4), 0x1FL);
        x.cut(0x0101_0101_0101_0101L);
        Check.due("near(6) under the reach", x.near(6), 0xFL);
        Check.due("near(5) under the reach", x.near(5), 0x7L);
        Check.due("near(7), the reach", x.near(7), 0x1FL);
        x.cut(1L);
        Check.due("near(0), the reach", x.near(0), 0x1L);
        Check.due("near(1), over the reach", x.near(1), 0x3L);
        Check.due("near(65)", x.near(65), 0L);
        for (int b : WRONG) {
            Check.due("near(" + b + ")", x.near(b), 0L);
        }
        NearMarks full = Make.full();
        Check.due("near(64) of 40", full.near(64), (1L << 40) - 1);
    }

    private static void promise19() {
        NearMarks x = Make.with(0xFFL, 0x3L, 0x5L, 0x0L, 0x1L, 0x6L);
        x.kind(3, 1);
        int[] due = {3, 4, 1, 2, 5, 0};
        for (int k = 0; k < due.length; k++) {
            Check.due("nearest(" + k + ")", x.nearest(k), due[k]);
        }
        Check.due("nearest(6)", x.nearest(6), NearMarks.NONE);
        for (int k : WRONG) {
            Check.due("nearest(" + k + ")", x.nearest(k), NearMarks.NONE);
        }
        x.hold(0);
        int[] then = {0, 1, 2, 5, 4, 3};
        for (int k = 0; k < then.length; k++) {
            Check.due("nearest(" + k + ") of another", x.nearest(k), then[k]);
        }
    }

    private static void promise20() {
        NearMarks x = Make.with(0x0L, 0x3L, -1L);
        Check.due("apart(0, 1)", x.apart(0, 1), 2);
        Check.due("apart(1, 0)", x.apart(1, 0), 2);
        Check.due("apart(0, 2)", x.apart(0, 2), 64);
        Check.due("apart(2, 1)", x.apart(2, 1), 62);
        Check.due("apart(1, 1), one twice", x.apart(1, 1), NearMarks.UNKNOWN);
        Check.due("apart(0, 3)", x.apart(0, 3), NearMarks.UNKNOWN);
        Check.due("apart(3, 0)", x.apart(3, 0), NearMarks.UNKNOWN);
        for (int k : WRONG) {
            Check.due("apart(" + k + ", 0)", x.apart(k, 0), NearMarks.UNKNOWN);
            Check.due("apart(0, " + k + ")", x.apart(0, k), NearMarks.UNKNOWN);
            Check.due("apart(" + k + ", " + k + ")", x.apart(k, k), NearMarks.UNKNOWN);
        }
    }

    /** Two chains, each of steps of 2, that are joined from their ends to their begins. */
    private static NearMarks chains() {
        NearMarks x = Make.with(0xFFL, 0xFF00L, 0x3FFL, 0xFF03L, 0xFFFL, 0xFF0000000000L);
        x.kind(1, 1);
        x.kind(2, 2);
        return x;
    }

    private static void promise21() {
        NearMarks x = chains();
        Check.due("groups(0)", x.groups(0), 6);
        Check.due("groups(1)", x.groups(1), 6);
        Check.due("groups(2)", x.groups(2), 3);
        Check.due("groups(9)", x.groups(9), 3);
        Check.due("groups(10)", x.groups(10), 2);
        Check.due("groups(15)", x.groups(15), 2);
        Check.due("groups(16)", x.groups(16), 1);
        Check.due("groups(64)", x.groups(64), 1);
        Check.due("groups(1) again", x.groups(1), 6);
        Check.due("groups(65)", x.groups(65), NearMarks.OUTSIDE);
        for (int b : WRONG) {
            Check.due("groups(" + b + ")", x.groups(b), NearMarks.OUTSIDE);
        }
        Check.due("groups(0) of 40", Make.full().groups(0), 40);
    }

    private static void promise22() {
        NearMarks x = chains();
        long[][] due = {{3, 0, 4}, {2, 1, 2}, {1, 5, 0}};
        for (int g = 0; g < due.length; g++) {
            for (int what = 0; what < 3; what++) {
                Check.due("group(2, " + g + ", " + what + ")", x.group(2, g, what), due[g][what]);
            }
            Check.due("group(2, " + g + ", 3)", x.group(2, g, 3), NearMarks.OUTSIDE);
            Check.due("group(2, " + g + ", -1)", x.group(2, g, -1), NearMarks.OUTSIDE);
        }
        Check.due("group(64, 0, 0)", x.group(64, 0, 0), 6);
        Check.due("group(64, 0, 2)", x.group(64, 0, 2), 20);
        Check.due("group(2, 3, 0)", x.group(2, 3, 0), NearMarks.UNKNOWN);
        Check.due("group(2, 3, 9)", x.group(2, 3, 9), NearMarks.UNKNOWN);
        Check.due("group(65, 9, 9)", x.group(65, 9, 9), NearMarks.OUTSIDE);
        Check.due("group(-1, 0, 0)", x.group(-1, 0, 0), NearMarks.OUTSIDE);
        for (int number : WRONG) {
            Check.due("group(" + number + ", 9, 0)", x.group(number, 9, 0), NearMarks.OUTSIDE);
            Check.due("group(2, " + number + ", 9)", x.group(2, number, 9), NearMarks.UNKNOWN);
        }
        longChain();
    }

    /** A chain whose marks are put in far out of its order. */
    private static void longChain() {
        NearMarks x = new NearMarks();
        for (int m = 0; m < 32; m++) {
            int step = (m * 21 + 5) % 32;
            Make.put(x, (1L << 2 * step) - 1, 0);
        }
        Check.due("groups(1) of a chain", x.groups(1), 32);
        Check.due("groups(2) of a chain", x.groups(2), 1);
        Check.due("group(2, 0, 2) of a chain", x.group(2, 0, 2), 62);
    }

    private static void promise23() {
        NearMarks x = chains();
        Check.due("middle(2, 0)", x.middle(2, 0), 0x3FFL);
        Check.due("middle(2, 1), 0 if just half", x.middle(2, 1), 0xFF00L);
        Check.due("middle(2, 2)", x.middle(2, 2), 0xFF0000000000L);
        Check.due("middle(64, 0)", x.middle(64, 0), 0x303L);
        Check.due("middle(2, 3)", x.middle(2, 3), 0L);
        Check.due("middle(65, 0)", x.middle(65, 0), 0L);
        for (int number : WRONG) {
            Check.due("middle(" + number + ", 0)", x.middle(number, 0), 0L);
            Check.due("middle(2, " + number + ")", x.middle(2, number), 0L);
        }
        NearMarks most = Make.with(-1L, -2L, -4L);
        Check.due("middle(2, 0) with the sign", most.middle(2, 0), -2L);
    }

    private static void promise24() {
        NearMarks x = Make.with(0x0L, 0x1L, -1L);
        x.kind(1, 1);
        Check.due("fewest(1, 0)", x.fewest(1, 0), 3);
        Check.due("fewest(1, 1)", x.fewest(1, 1), 0);
        Check.due("fewest(2, 0)", x.fewest(2, 0), 5);
        Check.due("fewest(8, 0)", x.fewest(8, 0), 5);
        Check.due("fewest(8, 1)", x.fewest(8, 1), 0);
        Check.due("fewest(0, 0)", x.fewest(0, 0), NearMarks.OUTSIDE);
        Check.due("fewest(9, 0)", x.fewest(9, 0), NearMarks.OUTSIDE);
        Check.due("fewest(1, 2)", x.fewest(1, 2), NearMarks.OUTSIDE);
        for (int number : WRONG) {
            Check.due("fewest(" + number + ", 0)", x.fewest(number, 0), NearMarks.OUTSIDE);
            Check.due("fewest(1, " + number + ")", x.fewest(1, number), NearMarks.OUTSIDE);
        }
        Check.due("told(1) after it", x.told(1), 4);
        NearMarks alike = Make.with(0x0L, 0x1L);
        Check.due("fewest(7, 1) of like ones", alike.fewest(7, 1), 0);
        Check.due("fewest(7, 0) of like ones", alike.fewest(7, 0), 4);
        NearMarks ones = Make.with(-1L, -2L, 0xFFL);
        Check.due("fewest(2, 0), parts of ones alike", ones.fewest(2, 0), 5);
        Check.due("fewest(8, 0), parts of ones alike", ones.fewest(8, 0), 7);
    }

    private static void nothingChangesByAsking() {
        NearMarks x = chains();
        x.see(8);
        x.write(0, 1, 3);
        x.cut(0x10101L);
        String before = Make.picture(x);
        x.near(5);
        x.nearest(2);
        x.apart(0, 1);
        x.groups(2);
        x.group(2, 0, 2);
        x.middle(2, 0);
        x.fewest(7, 0);
        Check.holds("nothing changes by asking", Make.picture(x).equals(before));
    }
}
