/** Terms: whole numbers, sets, the refusals and their order, and that what is refused changes nothing. */
public final class TermsTest {
    public static void main(String[] args) {
        numbersAreCut();
        numbersFromZero();
        sets();
        none();
        refusalsInTheirOrder();
        aMarkThatThereIsNot();
        oneTwice();
        farBelow();
        zeroInstead();
        refusedChangesNothing();
        theStatesAreTelling();
        Check.end();
    }

    private static void numbersAreCut() {
        Doc.terms("All numbers are whole; / cuts towards 0.");
        // By eight parts REACH is 7: of b below it the half counts.
        NearMarks x = Make.with(0x0L, 0x1L, 0x3L, 0x7L);
        x.cut(0xFFL);
        for (int k = 0; k < 4; k++) {
            x.kind(k, 2);
        }
        long[] halves = {0x1L, 0x1L, 0x3L, 0x3L, 0x7L, 0x7L, 0xFL};
        for (int b = 0; b < halves.length; b++) {
            Check.due("near(" + b + ") by half of it", x.near(b), halves[b]);
        }
        // 64 / 7 is 9: the first of 7 parts has bits 0 to 9 by CUT 0, 0 to 8 by CUT 1.
        NearMarks y = Make.with(0x0L, 1L << 9 | 1L << 10 | 1L << 19 | 1L << 28 | 1L << 37 | 1L << 46 | 1L << 55);
        Check.due("fewest(7, 0)", y.fewest(7, 0), 2);
        Check.due("fewest(7, 1)", y.fewest(7, 1), 0);
    }

    private static void numbersFromZero() {
        Doc.terms("What has a number has it from 0 on.");
        NearMarks x = new NearMarks();
        Check.due("the first put", x.put(0), 0);
        Check.due("bit 0", x.flip(0), 1);
        Check.due("row 0", x.type(0, 255), 8);
        Check.due("part 0", x.part(0, 0), 0);
        Check.due("the NEAREST has 0", x.nearest(0), 0);
        Check.due("group 0", x.group(0, 0, 0), 1);
        Check.due("image 0", x.keep(0), 1);
        x.put(0);
        x.write(0, 1, 63);
        Check.due("the first entry is 0", x.told(15), 0);
    }

    private static void sets() {
        Doc.terms("A SET is a whole number, bit k for k.");
        NearMarks x = Make.fullOfBits();
        for (int k : new int[] {0, 1, 30, 31, 32, 33, 39}) {
            x.hold(k);
            Check.due("near(0) of mark " + k, x.near(0), 1L << k);
        }
        Check.due("near(2) of 40", x.near(2), 0xFF_FFFF_FFFFL);
        for (int c = 0; c < 8; c++) {
            NearMarks y = new NearMarks();
            y.type(0, 1 << c);
            Check.due("hand() of dot " + c, y.hand(), 1L << c);
        }
        for (int bit : new int[] {1, 31, 32, 62, 63}) {
            x.cut(1L | 1L << bit);
            Check.due("part(1, 0) of " + bit, x.part(1, 0), bit);
        }
    }

    private static void none() {
        Doc.terms("NONE is -1.");
        Check.due("NONE", NearMarks.NONE, -1);
        NearMarks x = new NearMarks();
        for (int what : new int[] {3, 6, 7, 9, 12, 13, 15}) {
            Check.due("told(" + what + ")", x.told(what), -1);
        }
        Check.due("nearest(0)", x.nearest(0), -1);
    }

    private static void refusalsInTheirOrder() {
        Doc.terms("REFUSALS, of several the first in this order:");
        for (Refusals.Refusal refusal : Refusals.all()) {
            Check.due(refusal.call(), refusal.asked().applyAsLong(refusal.state().get()), refusal.due());
        }
        Doc.terms("OUTSIDE (another number out of its bounds), NOT (not now, as told), FULL.");
        NearMarks like = Refusals.busy();
        Check.due("put(3): OUTSIDE ahead of NOT and FULL", like.put(3), NearMarks.OUTSIDE);
        Check.due("put(2): NOT ahead of FULL", like.put(2), NearMarks.NOT);
        like.flip(50);
        Check.due("put(3): OUTSIDE ahead of FULL", like.put(3), NearMarks.OUTSIDE);
        Check.due("put(2): FULL alone", like.put(2), NearMarks.FULL);
        NearMarks few = Refusals.empty();
        Check.due("undo(21): OUTSIDE ahead of NOT", few.undo(21), NearMarks.OUTSIDE);
        Check.due("undo(20): NOT alone", few.undo(20), NearMarks.NOT);
    }

    private static void aMarkThatThereIsNot() {
        Doc.terms("UNKNOWN (a MARK, GROUP, IMAGE that there is not; one twice, where two are asked),");
        NearMarks x = Make.with(0x1L, 0x2L, 0x4L);
        Check.due("mark(2, 0), the last", x.mark(2, 0), 0);
        Check.due("mark(3, 0)", x.mark(3, 0), NearMarks.UNKNOWN);
        x.take(0);
        Check.due("mark(2, 0) when one is taken", x.mark(2, 0), NearMarks.UNKNOWN);
        x.undo(1);
        Check.due("mark(2, 0) when that is undone", x.mark(2, 0), 0);
        x.undo(1);
        x.undo(1);
        Check.due("mark(2, 0) when its put is undone", x.mark(2, 0), NearMarks.UNKNOWN);
        Check.due("group(1, 1, 0), the last", x.group(1, 1, 0), 1);
        Check.due("group(1, 2, 0)", x.group(1, 2, 0), NearMarks.UNKNOWN);
        Check.due("group(2, 1, 0): there is one group", x.group(2, 1, 0), NearMarks.UNKNOWN);
        Check.due("keep(1), the last", x.keep(1), 1);
        Check.due("keep(2)", x.keep(2), NearMarks.UNKNOWN);
        Check.due("goBack(2)", x.goBack(2), NearMarks.UNKNOWN);
    }

    private static void oneTwice() {
        Doc.terms("one twice, where two are asked");
        NearMarks x = Make.full();
        for (int k : new int[] {0, 1, 38, 39}) {
            Check.due("apart(" + k + ", " + k + ")", x.apart(k, k), NearMarks.UNKNOWN);
            Check.due("write(" + k + ", " + k + ", 0)", x.write(k, k, 0), NearMarks.UNKNOWN);
        }
        Check.due("told(14)", x.told(14), 0);
        Check.due("apart(38, 39)", x.apart(38, 39), 4);
        Check.due("apart(39, 38)", x.apart(39, 38), 4);
    }

    private static void farBelow() {
        Doc.terms("They are far below all that is counted: -1000000001 and on;");
        Check.due("UNKNOWN", NearMarks.UNKNOWN, -1000000001);
        Check.due("OUTSIDE", NearMarks.OUTSIDE, -1000000002);
        Check.due("NOT", NearMarks.NOT, -1000000003);
        Check.due("FULL", NearMarks.FULL, -1000000004);
    }

    private static void zeroInstead() {
        Doc.terms("calls that tell a whole mark, or a row of it, tell 0 instead.");
        NearMarks x = Make.with(-1L);
        Check.due("markAt(0)", x.markAt(0), -1L);
        Check.due("markAt(1)", x.markAt(1), 0L);
        Check.due("middle(0, 0)", x.middle(0, 0), -1L);
        Check.due("middle(0, 1)", x.middle(0, 1), 0L);
        Check.due("middle(65, 0)", x.middle(65, 0), 0L);
        NearMarks none = new NearMarks();
        Check.due("turn() of all 0", none.turn(), 0);
        Check.due("mirror() of all 0", none.mirror(), 0);
    }

    private static void refusedChangesNothing() {
        Doc.terms("What is refused changes nothing.");
        for (Refusals.Refusal refusal : Refusals.all()) {
            NearMarks x = refusal.state().get();
            refusal.asked().applyAsLong(x);
            Check.holds(refusal.call() + " changes nothing",
                Make.whole(x).equals(Make.whole(refusal.state().get())));
        }
    }

    /** Were a refused call a deed after all, these states would show it. */
    private static void theStatesAreTelling() {
        Check.due("deeds of empty", Refusals.empty().told(16), 2);
        Check.due("deeds of single", Refusals.single().told(16), 3);
        NearMarks busy = Refusals.busy();
        Check.due("marks of busy", busy.told(0), 40);
        Check.due("the mark in hand of busy", busy.told(3), 39);
        Check.due("seen of busy", busy.told(10), 6);
        Check.due("could be of busy", busy.told(11), 40);
        Check.due("book of busy", busy.told(14), 20);
        Check.due("wrong of busy", busy.told(15), 17);
        Check.due("deeds of busy", busy.told(16), 20);
        Check.due("the unlike one", Refusals.busyUnlike().told(3), NearMarks.NONE);
    }
}
