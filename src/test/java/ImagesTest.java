/** Promises 28 to 30: seed, keep, goBack. */
public final class ImagesTest {
    private static final int[] WRONG = {Integer.MIN_VALUE, -1, 2, Integer.MAX_VALUE};

    public static void main(String[] args) {
        promise28();
        promise29();
        promise30();
        promise30leavesSeenAndBook();
        Check.end();
    }

    private static void promise28() {
        NearMarks x = new NearMarks();
        Check.due("seed(1)", x.seed(1), 0);
        Check.due("seed(2147483647)", x.seed(Integer.MAX_VALUE), 1);
        Check.due("seed(-1)", x.seed(-1), NearMarks.OUTSIDE);
        Check.due("seed of the least", x.seed(Integer.MIN_VALUE), NearMarks.OUTSIDE);
        Check.due("seed(0)", x.seed(0), Integer.MAX_VALUE);
        Check.due("told(16): no deed", x.told(16), 0);
        // 0 becomes 12345, whose draw of 4 is 0; then two draws more.
        x.drift(1);
        long second = (12345L * 1103515245L + 12345L) % (1L << 31);
        long third = (second * 1103515245L + 12345L) % (1L << 31);
        Check.due("hand()", x.hand(), third / 65536 % 256 * 0x0101_0101_0101_0101L);
        Check.due("seed(0)", x.seed(0), third);
    }

    private static void promise29() {
        NearMarks x = Make.with(0x1L);
        Check.holds("there is something to undo", x.told(16) > 0);
        Check.due("keep(0)", x.keep(0), 1);
        Check.due("told(16)", x.told(16), 0);
        Check.due("undo(1)", x.undo(1), NearMarks.NOT);
        x.flip(9);
        Check.due("keep(1)", x.keep(1), 1);
        Check.due("told(16)", x.told(16), 0);
        for (int i : WRONG) {
            x.flip(5);
            Check.due("keep(" + i + ")", x.keep(i), NearMarks.UNKNOWN);
            Check.due("told(16)", x.told(16), 1);
            x.undo(1);
        }
        x.goBack(0);
        Check.due("hand() of image 0", x.hand(), 0L);
        x.goBack(1);
        Check.due("hand() of image 1", x.hand(), 0x200L);
        x.flip(0);
        Check.due("keep(1) anew", x.keep(1), 1);
        x.flip(1);
        x.goBack(1);
        Check.due("hand() of image 1 anew", x.hand(), 0x201L);
    }

    private static void promise30() {
        NearMarks x = Make.with(0x1L, 0x7L);
        x.kind(1, 2);
        x.cut(0x101L);
        x.seed(77);
        x.flip(40);
        Check.due("goBack(0), not kept", x.goBack(0), NearMarks.NOT);
        x.keep(1);
        String before = Make.picture(x);
        Check.due("goBack(0), the other is kept", x.goBack(0), NearMarks.NOT);
        for (int i : WRONG) {
            Check.due("goBack(" + i + ")", x.goBack(i), NearMarks.UNKNOWN);
        }
        for (int time = 0; time < 2; time++) {
            x.kind(1, 1);
            x.cut(0x8000_0000_0000_1111L);
            x.take(0);
            x.drift(20);
            Check.due("goBack(1)", x.goBack(1), 1);
            Check.holds("all is as in the image", Make.picture(x).equals(before));
            Check.due("the seed of the image", x.seed(77), 77);
            Check.due("undo(1)", x.undo(1), NearMarks.NOT);
            Check.due("told(1)", x.told(1), 2);
            Check.due("part(1, 0)", x.part(1, 0), 8);
        }
        x.seed(5);
        x.goBack(1);
        Check.due("the seed as it was kept", x.seed(0), 77);
        x.flip(1);
        x.flip(2);
        x.goBack(0);
        Check.due("told(16) after a refused one", x.told(16), 2);
        Check.due("undo(2)", x.undo(2), 2);
    }

    private static void promise30leavesSeenAndBook() {
        NearMarks x = Make.with(0x1L, 0x7L);
        x.keep(0);
        x.see(3);
        x.write(0, 1, 2);
        x.goBack(0);
        Check.due("told(10)", x.told(10), 1);
        Check.due("told(14)", x.told(14), 1);
        x.keep(1);
        x.tear();
        x.goBack(1);
        Check.due("told(10) stays torn", x.told(10), 0);
        Check.due("told(14) stays torn", x.told(14), 0);
    }
}
