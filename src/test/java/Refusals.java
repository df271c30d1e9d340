import java.util.ArrayList;
import java.util.List;
import java.util.function.Supplier;
import java.util.function.ToLongFunction;

/** Every call that can be refused, with each refusal that it names, from states where it is due. */
final class Refusals {
    record Refusal(String call, Supplier<NearMarks> state, ToLongFunction<NearMarks> asked, long due) { }

    private static final int[] BELOW = {-1, Integer.MIN_VALUE};
    private final List<Refusal> all = new ArrayList<>();
    private Supplier<NearMarks> state = Refusals::empty;
    private String name = "";

    private Refusals() {
    }

    static List<Refusal> all() {
        Refusals refusals = new Refusals();
        refusals.from("empty", Refusals::empty, 0);
        refusals.from("single", Refusals::single, 1);
        refusals.from("busy", Refusals::busy, 40);
        refusals.ofOneMark();
        refusals.ofFullOnes();
        return refusals.all;
    }

    /** No marks, something in hand, a seed, one thing seen, two deeds to undo, image 1 kept. */
    static NearMarks empty() {
        NearMarks x = new NearMarks();
        x.flip(9);
        x.seed(77);
        x.keep(1);
        x.flip(63);
        x.cut(0x101L);
        x.see(3);
        return x;
    }

    /** One mark, which is in hand. */
    static NearMarks single() {
        NearMarks x = empty();
        x.put(2);
        return x;
    }

    /** Forty marks, one of which is in hand, all that is bounded full, image 1 kept, image 0 not. */
    static NearMarks busy() {
        NearMarks x = Make.fullOfBits();
        x.kind(3, 1);
        x.cut(0x0001_0000_0101_0001L);
        x.keep(1);
        x.seed(5);
        for (int bit = 0; bit < 18; bit++) {
            x.flip(63 - bit);
        }
        for (int entry = 0; entry < 20; entry++) {
            x.write(entry, entry + 20, entry < 17 ? 2 : entry);
        }
        for (int n = 0; n < 6; n++) {
            x.see(19);
        }
        x.kind(4, 2);
        x.hold(39);
        return x;
    }

    /** As busy, but what is in hand is unlike all. */
    static NearMarks busyUnlike() {
        NearMarks x = busy();
        x.flip(50);
        return x;
    }

    private void add(String call, ToLongFunction<NearMarks> asked, long due) {
        all.add(new Refusal(name + ": " + call, state, asked, due));
    }

    private void from(String named, Supplier<NearMarks> made, int marks) {
        name = named;
        state = made;
        for (int wrong : BELOW) {
            ofNumbers(wrong);
            ofMarks(wrong);
            ofPartsGroupsImages(wrong, wrong, wrong);
        }
        beyondNumbers();
        ofMarks(marks);
        ofMarks(Integer.MAX_VALUE);
        ofPartsGroupsImages(marks == 40 ? 4 : 2, marks, 2);
        ofPartsGroupsImages(8, 40, 3);
        ofPartsGroupsImages(Integer.MAX_VALUE, Integer.MAX_VALUE, Integer.MAX_VALUE);
        add("goBack(0), not kept", x -> x.goBack(0), NearMarks.NOT);
        add("undo of too many", x -> x.undo(marks == 40 ? 21 : 4), marks == 40 ? NearMarks.OUTSIDE : NearMarks.NOT);
    }

    /** Numbers out of their bounds, of calls that have no other refusal ahead of it. */
    private void ofNumbers(int wrong) {
        add("told(" + wrong + ")", x -> x.told(wrong), NearMarks.OUTSIDE);
        add("type(" + wrong + ", 1)", x -> x.type(wrong, 1), NearMarks.OUTSIDE);
        add("type(1, " + wrong + ")", x -> x.type(1, wrong), NearMarks.OUTSIDE);
        add("flip(" + wrong + ")", x -> x.flip(wrong), NearMarks.OUTSIDE);
        add("put(" + wrong + ")", x -> x.put(wrong), NearMarks.OUTSIDE);
        add("drift(" + wrong + ")", x -> x.drift(wrong), NearMarks.OUTSIDE);
        add("undo(" + wrong + ")", x -> x.undo(wrong), NearMarks.OUTSIDE);
        add("near(" + wrong + ")", x -> x.near(wrong), 0L);
        add("groups(" + wrong + ")", x -> x.groups(wrong), NearMarks.OUTSIDE);
        add("group(" + wrong + ", 0, 0)", x -> x.group(wrong, 0, 0), NearMarks.OUTSIDE);
        add("group(" + wrong + ", 40, 3)", x -> x.group(wrong, 40, 3), NearMarks.OUTSIDE);
        add("middle(" + wrong + ", 0)", x -> x.middle(wrong, 0), 0L);
        add("fewest(" + wrong + ", 0)", x -> x.fewest(wrong, 0), NearMarks.OUTSIDE);
        add("fewest(1, " + wrong + ")", x -> x.fewest(1, wrong), NearMarks.OUTSIDE);
        add("see(" + wrong + ")", x -> x.see(wrong), NearMarks.OUTSIDE);
        add("part(0, " + wrong + ")", x -> x.part(0, wrong), NearMarks.OUTSIDE);
        if (wrong < 0) {
            add("seed(" + wrong + ")", x -> x.seed(wrong), NearMarks.OUTSIDE);
        }
    }

    private void beyondNumbers() {
        ofNumbers(Integer.MAX_VALUE);
        add("told(17)", x -> x.told(17), NearMarks.OUTSIDE);
        add("part(0, 3)", x -> x.part(0, 3), NearMarks.OUTSIDE);
        add("type(8, 0)", x -> x.type(8, 0), NearMarks.OUTSIDE);
        add("type(0, 256)", x -> x.type(0, 256), NearMarks.OUTSIDE);
        add("type(8, 256)", x -> x.type(8, 256), NearMarks.OUTSIDE);
        add("flip(64)", x -> x.flip(64), NearMarks.OUTSIDE);
        add("put(3)", x -> x.put(3), NearMarks.OUTSIDE);
        add("cut(0)", x -> x.cut(0L), NearMarks.OUTSIDE);
        add("cut(2)", x -> x.cut(2L), NearMarks.OUTSIDE);
        add("cut of the sign", x -> x.cut(Long.MIN_VALUE), NearMarks.OUTSIDE);
        add("cut of nine", x -> x.cut(0x8000_0000_0000_00FFL), NearMarks.OUTSIDE);
        add("cut of 64", x -> x.cut(-1L), NearMarks.OUTSIDE);
        add("drift(0)", x -> x.drift(0), NearMarks.OUTSIDE);
        add("drift(21)", x -> x.drift(21), NearMarks.OUTSIDE);
        add("undo(0)", x -> x.undo(0), NearMarks.OUTSIDE);
        add("undo(21)", x -> x.undo(21), NearMarks.OUTSIDE);
        add("near(65)", x -> x.near(65), 0L);
        add("groups(65)", x -> x.groups(65), NearMarks.OUTSIDE);
        add("group(65, 0, 0)", x -> x.group(65, 0, 0), NearMarks.OUTSIDE);
        add("middle(65, 0)", x -> x.middle(65, 0), 0L);
        add("fewest(0, 0)", x -> x.fewest(0, 0), NearMarks.OUTSIDE);
        add("fewest(9, 0)", x -> x.fewest(9, 0), NearMarks.OUTSIDE);
        add("fewest(1, 2)", x -> x.fewest(1, 2), NearMarks.OUTSIDE);
        add("see(65)", x -> x.see(65), NearMarks.OUTSIDE);
    }

    /** A mark that there is not: UNKNOWN, whatever else is wrong with the call. */
    private void ofMarks(int k) {
        add("markAt(" + k + ")", x -> x.markAt(k), 0L);
        add("mark(" + k + ", 0)", x -> x.mark(k, 0), NearMarks.UNKNOWN);
        add("mark(" + k + ", 5)", x -> x.mark(k, 5), NearMarks.UNKNOWN);
        add("mark(" + k + ", -1)", x -> x.mark(k, -1), NearMarks.UNKNOWN);
        add("hold(" + k + ")", x -> x.hold(k), NearMarks.UNKNOWN);
        add("take(" + k + ")", x -> x.take(k), NearMarks.UNKNOWN);
        add("kind(" + k + ", 0)", x -> x.kind(k, 0), NearMarks.UNKNOWN);
        add("kind(" + k + ", 3)", x -> x.kind(k, 3), NearMarks.UNKNOWN);
        add("nearest(" + k + ")", x -> x.nearest(k), NearMarks.NONE);
        add("apart(" + k + ", 0)", x -> x.apart(k, 0), NearMarks.UNKNOWN);
        add("apart(0, " + k + ")", x -> x.apart(0, k), NearMarks.UNKNOWN);
        add("apart(0, 0)", x -> x.apart(0, 0), NearMarks.UNKNOWN);
        add("write(" + k + ", 0, 1)", x -> x.write(k, 0, 1), NearMarks.UNKNOWN);
        add("write(0, " + k + ", 1)", x -> x.write(0, k, 1), NearMarks.UNKNOWN);
        add("write(0, " + k + ", 65)", x -> x.write(0, k, 65), NearMarks.UNKNOWN);
        add("write(0, 0, 0)", x -> x.write(0, 0, 0), NearMarks.UNKNOWN);
        add("write(0, 0, -1)", x -> x.write(0, 0, -1), NearMarks.UNKNOWN);
    }

    private void ofPartsGroupsImages(int p, int g, int i) {
        add("part(" + p + ", 0)", x -> x.part(p, 0), NearMarks.UNKNOWN);
        add("part(" + p + ", 3)", x -> x.part(p, 3), NearMarks.UNKNOWN);
        add("group(0, " + g + ", 0)", x -> x.group(0, g, 0), NearMarks.UNKNOWN);
        add("group(0, " + g + ", 3)", x -> x.group(0, g, 3), NearMarks.UNKNOWN);
        add("middle(0, " + g + ")", x -> x.middle(0, g), 0L);
        add("keep(" + i + ")", x -> x.keep(i), NearMarks.UNKNOWN);
        add("goBack(" + i + ")", x -> x.goBack(i), NearMarks.UNKNOWN);
    }

    private void ofOneMark() {
        name = "single";
        state = Refusals::single;
        add("put(0), a like one", x -> x.put(0), NearMarks.NOT);
        for (int wrong : new int[] {-1, 5, Integer.MIN_VALUE, Integer.MAX_VALUE}) {
            add("mark(0, " + wrong + ")", x -> x.mark(0, wrong), NearMarks.OUTSIDE);
            add("kind(0, " + wrong + ")", x -> x.kind(0, wrong), NearMarks.OUTSIDE);
            add("group(64, 0, " + wrong + ")", x -> x.group(64, 0, wrong), NearMarks.OUTSIDE);
        }
        add("kind(0, 3)", x -> x.kind(0, 3), NearMarks.OUTSIDE);
        add("group(64, 0, 3)", x -> x.group(64, 0, 3), NearMarks.OUTSIDE);
        add("group(64, 1, 0)", x -> x.group(64, 1, 0), NearMarks.UNKNOWN);
    }

    private void ofFullOnes() {
        name = "busy";
        state = Refusals::busy;
        add("put(0), a like one and full", x -> x.put(0), NearMarks.NOT);
        add("see(0), full", x -> x.see(0), NearMarks.FULL);
        add("see(64), full", x -> x.see(64), NearMarks.FULL);
        add("see(65), full", x -> x.see(65), NearMarks.OUTSIDE);
        add("write(0, 1, 2), full", x -> x.write(0, 1, 2), NearMarks.FULL);
        add("write(0, 1, 65), full", x -> x.write(0, 1, 65), NearMarks.OUTSIDE);
        add("write(0, 1, -1), full", x -> x.write(0, 1, -1), NearMarks.OUTSIDE);
        add("group(64, 1, 0)", x -> x.group(64, 1, 0), NearMarks.UNKNOWN);
        state = Refusals::busyUnlike;
        name = "busy, unlike";
        add("put(0), full", x -> x.put(0), NearMarks.FULL);
        add("put(2), full", x -> x.put(2), NearMarks.FULL);
        add("put(3), full", x -> x.put(3), NearMarks.OUTSIDE);
    }
}
