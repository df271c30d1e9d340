/** Promises 25 to 27: see, write, tear. */
public final class SeenTest {
    private static final int[] WRONG = {Integer.MIN_VALUE, -1, Integer.MAX_VALUE};

    public static void main(String[] args) {
        promise25();
        promise25keepsTheHandAsItWas();
        promise26();
        promise26ofNumbers();
        promise27();
        Check.end();
    }

    private static void promise25() {
        NearMarks x = Make.with(0x0L, -1L, 0x1L);
        Check.due("see(65)", x.see(65), NearMarks.OUTSIDE);
        for (int apart : WRONG) {
            Check.due("see(" + apart + ")", x.see(apart), NearMarks.OUTSIDE);
        }
        Check.due("told(10)", x.told(10), 0);
        Check.due("see(64)", x.see(64), 1);
        Check.due("told(12)", x.told(12), 1);
        x.tear();
        Check.due("see(0)", x.see(0), 1);
        Check.due("told(12)", x.told(12), 0);
        for (int n = 2; n <= 6; n++) {
            Check.due("see(0) the " + n + "th", x.see(0), n);
        }
        Check.due("see(0) too many", x.see(0), NearMarks.FULL);
        Check.due("see(65) too many", x.see(65), NearMarks.OUTSIDE);
        Check.due("told(10)", x.told(10), 6);
        Check.due("told(11)", x.told(11), 1);
    }

    private static void promise25keepsTheHandAsItWas() {
        NearMarks x = Make.with(0x1L, 0x3L, 0x7L);
        x.see(2);
        Make.hand(x, -1L);
        Check.due("told(12)", x.told(12), 1);
        x.take(1);
        Check.due("told(11) when it is taken", x.told(11), 0);
        Make.put(x, 0x6L, 1);
        Check.due("told(12) when another fits", x.told(12), 2);
        x.keep(0);
        x.goBack(0);
        Check.due("told(10) by images", x.told(10), 1);
    }

    private static void promise26() {
        NearMarks x = Make.with(0x1L, 0x3L, 0x7L);
        Check.due("write(0, 1, 65)", x.write(0, 1, 65), NearMarks.OUTSIDE);
        Check.due("write(0, 1, -1)", x.write(0, 1, -1), NearMarks.OUTSIDE);
        Check.due("write(0, 0, 1)", x.write(0, 0, 1), NearMarks.UNKNOWN);
        Check.due("write(0, 0, 65)", x.write(0, 0, 65), NearMarks.UNKNOWN);
        Check.due("write(0, 3, 65)", x.write(0, 3, 65), NearMarks.UNKNOWN);
        Check.due("write(3, 0, 1)", x.write(3, 0, 1), NearMarks.UNKNOWN);
        for (int number : WRONG) {
            Check.due("write(" + number + ", 0, 1)", x.write(number, 0, 1), NearMarks.UNKNOWN);
            Check.due("write(0, " + number + ", 1)", x.write(0, number, 1), NearMarks.UNKNOWN);
            Check.due("write(0, 1, " + number + ")", x.write(0, 1, number), NearMarks.OUTSIDE);
        }
        Check.due("told(14)", x.told(14), 0);
        for (int n = 1; n <= 20; n++) {
            Check.due("write the " + n + "th", x.write(0, 1, n == 20 ? 64 : 1), n);
            Check.due("told(15)", x.told(15), n == 20 ? 19 : NearMarks.NONE);
        }
        Check.due("write too many", x.write(0, 1, 0), NearMarks.FULL);
        Check.due("write too many, outside", x.write(0, 1, 65), NearMarks.OUTSIDE);
        Check.due("write too many, unknown", x.write(1, 1, 1), NearMarks.UNKNOWN);
        Check.due("told(14)", x.told(14), 20);
    }

    private static void promise26ofNumbers() {
        NearMarks x = Make.with(0x0L, 0x1L, 0xFL);
        x.write(1, 0, 1);
        Check.due("told(15)", x.told(15), NearMarks.NONE);
        x.take(0);
        Check.due("told(15) of the numbers now", x.told(15), 0);
        x.undo(1);
        Check.due("told(15) when undone", x.told(15), NearMarks.NONE);
        x.write(1, 2, 0);
        Check.due("told(15) of 0", x.told(15), 1);
        x.keep(0);
        x.take(2);
        x.goBack(0);
        Check.due("told(14) by images", x.told(14), 2);
    }

    private static void promise27() {
        NearMarks x = Make.with(0x1L, 0x3L, 0x7L);
        x.see(1);
        x.see(2);
        x.write(0, 1, 5);
        x.write(0, 1, 1);
        x.write(0, 2, 1);
        int deeds = x.told(16);
        Check.due("tear()", x.tear(), 5);
        Check.due("told(10)", x.told(10), 0);
        Check.due("told(11)", x.told(11), 3);
        Check.due("told(14)", x.told(14), 0);
        Check.due("told(15)", x.told(15), NearMarks.NONE);
        Check.due("tear() again", x.tear(), 0);
        Check.due("see(0) then", x.see(0), 1);
        Check.due("write(0, 1, 1) then", x.write(0, 1, 1), 1);
        Check.due("told(15) then", x.told(15), NearMarks.NONE);
        Check.due("told(16): no deeds", x.told(16), deeds);
        Check.due("told(0)", x.told(0), 3);
    }
}
