/** Promises 7 to 17: type, flip, turn, mirror, hold, put, cut, take, kind, drift, undo. */
public final class DeedsTest {
    private static final int[] WRONG = {Integer.MIN_VALUE, -1, Integer.MAX_VALUE};
    private static final long BENT = 0x0102_0408_0000_00F1L;

    public static void main(String[] args) {
        promise7();
        promise8();
        promise9();
        promise10();
        promise11();
        promise12();
        promise13();
        promise14();
        promise15();
        promise16();
        promise16putsKeptAndStopsWhenFull();
        promise17ofEachDeed();
        promise17ofMany();
        promise17leavesSeedSeenAndBook();
        promise17refused();
        refusedChangesNothing();
        Check.end();
    }

    private static void promise7() {
        NearMarks x = new NearMarks();
        Check.due("type(0, 255)", x.type(0, 255), 8);
        Check.due("type(7, 129)", x.type(7, 129), 10);
        Check.due("hand()", x.hand(), 0x8100_0000_0000_00FFL);
        Check.due("type(0, 0)", x.type(0, 0), 2);
        Check.due("type(3, 1)", x.type(3, 1), 3);
        Check.due("hand()", x.hand(), 0x8100_0000_0100_0000L);
        Check.due("type(8, 0)", x.type(8, 0), NearMarks.OUTSIDE);
        Check.due("type(0, 256)", x.type(0, 256), NearMarks.OUTSIDE);
        for (int number : WRONG) {
            Check.due("type(" + number + ", 0)", x.type(number, 0), NearMarks.OUTSIDE);
            Check.due("type(0, " + number + ")", x.type(0, number), NearMarks.OUTSIDE);
        }
        Check.due("hand()", x.hand(), 0x8100_0000_0100_0000L);
    }

    private static void promise8() {
        NearMarks x = new NearMarks();
        for (int bit = 0; bit < 64; bit++) {
            Check.due("flip(" + bit + ")", x.flip(bit), 1);
            Check.due("hand() of " + bit, x.hand(), 1L << bit);
            Check.due("flip(" + bit + ")", x.flip(bit), 0);
        }
        Check.due("flip(64)", x.flip(64), NearMarks.OUTSIDE);
        for (int bit : WRONG) {
            Check.due("flip(" + bit + ")", x.flip(bit), NearMarks.OUTSIDE);
        }
        Check.due("hand()", x.hand(), 0L);
    }

    private static void promise9() {
        for (int r = 0; r < 8; r++) {
            for (int c = 0; c < 8; c++) {
                NearMarks x = new NearMarks();
                x.flip(8 * r + c);
                Check.due("turn()", x.turn(), c == 0 ? 1 << 7 - r : 0);
                Check.due("hand() turned", x.hand(), 1L << 8 * c + 7 - r);
            }
        }
        NearMarks x = new NearMarks();
        Make.hand(x, BENT);
        for (int quarter = 0; quarter < 4; quarter++) {
            x.turn();
            Check.holds("turned " + quarter, x.hand() == BENT == (quarter == 3));
        }
    }

    private static void promise10() {
        for (int r = 0; r < 8; r++) {
            for (int c = 0; c < 8; c++) {
                NearMarks x = new NearMarks();
                x.flip(8 * r + c);
                Check.due("mirror()", x.mirror(), r == 0 ? 1 << 7 - c : 0);
                Check.due("hand() mirrored", x.hand(), 1L << 8 * r + 7 - c);
            }
        }
        NearMarks x = new NearMarks();
        Make.hand(x, BENT);
        Check.due("mirror()", x.mirror(), 0x8F);
        Check.due("hand()", x.hand(), 0x8040_2010_0000_008FL);
        Check.due("mirror()", x.mirror(), 0xF1);
        Check.due("hand()", x.hand(), BENT);
    }

    private static void promise11() {
        NearMarks x = Make.with(0x7L, -1L);
        Check.due("hold(1)", x.hold(1), 64);
        Check.due("hand()", x.hand(), -1L);
        Check.due("hold(0)", x.hold(0), 61);
        Check.due("hand()", x.hand(), 0x7L);
        Check.due("hold(0) again", x.hold(0), 0);
        Check.due("told(0)", x.told(0), 2);
        Check.due("hold(2)", x.hold(2), NearMarks.UNKNOWN);
        for (int k : WRONG) {
            Check.due("hold(" + k + ")", x.hold(k), NearMarks.UNKNOWN);
        }
        Check.due("hand()", x.hand(), 0x7L);
    }

    private static void promise12() {
        NearMarks x = new NearMarks();
        for (int kind = 0; kind < 3; kind++) {
            Check.due("put(" + kind + ")", x.put(kind), kind);
            Check.due("mark(" + kind + ", 0)", x.mark(kind, 0), kind);
            Check.due("put again", x.put(kind), NearMarks.NOT);
            Check.due("put again, of another kind", x.put(2 - kind), NearMarks.NOT);
            x.flip(kind);
        }
        Check.due("put(3)", x.put(3), NearMarks.OUTSIDE);
        for (int kind : WRONG) {
            Check.due("put(" + kind + ")", x.put(kind), NearMarks.OUTSIDE);
        }
        Check.due("told(0)", x.told(0), 3);

        NearMarks full = Make.full();
        Check.due("told(0) full", full.told(0), 40);
        Check.due("put when full", full.put(0), NearMarks.FULL);
        Check.due("put of no kind when full", full.put(3), NearMarks.OUTSIDE);
        full.hold(0);
        Check.due("put of a like one when full", full.put(0), NearMarks.NOT);
        Check.due("put of a like one of no kind", full.put(3), NearMarks.OUTSIDE);
        full.take(0);
        Check.due("put when there is room again", full.put(0), 39);
        Check.due("markAt(39)", full.markAt(39), 1L);
    }

    private static void promise13() {
        NearMarks x = Make.with(0x3L);
        Check.due("cut(1)", x.cut(1L), 0);
        Check.due("told(1)", x.told(1), 1);
        Check.due("cut of two", x.cut(0x8000_0000_0000_0001L), 1);
        Check.due("part(1, 0)", x.part(1, 0), 63);
        Check.due("cut of eight", x.cut(0xFFL), 7);
        Check.due("part(7, 0)", x.part(7, 0), 7);
        Check.due("part(7, 1)", x.part(7, 1), 57);
        Check.due("cut of nine", x.cut(0x1FFL), NearMarks.OUTSIDE);
        Check.due("cut without bit 0", x.cut(0xFEL), NearMarks.OUTSIDE);
        Check.due("cut(0)", x.cut(0L), NearMarks.OUTSIDE);
        Check.due("cut(-1)", x.cut(-1L), NearMarks.OUTSIDE);
        Check.due("cut of the sign alone", x.cut(Long.MIN_VALUE), NearMarks.OUTSIDE);
        Check.due("told(1)", x.told(1), 8);
        Check.due("told(4)", x.told(4), 1);
        Check.due("hand()", x.hand(), 0L);
        Check.due("told(0)", x.told(0), 1);
    }

    private static void promise14() {
        NearMarks x = Make.with(0x1L, 0x2L, 0x4L, 0x8L);
        x.kind(2, 1);
        x.kind(3, 2);
        Check.due("take(1)", x.take(1), 3);
        Check.due("markAt(0)", x.markAt(0), 0x1L);
        Check.due("markAt(1)", x.markAt(1), 0x4L);
        Check.due("markAt(2)", x.markAt(2), 0x8L);
        Check.due("mark(1, 0)", x.mark(1, 0), 1);
        Check.due("mark(2, 0)", x.mark(2, 0), 2);
        Check.due("take(3)", x.take(3), NearMarks.UNKNOWN);
        for (int k : WRONG) {
            Check.due("take(" + k + ")", x.take(k), NearMarks.UNKNOWN);
        }
        Check.due("take(2)", x.take(2), 2);
        Check.due("take(0)", x.take(0), 1);
        Check.due("take(0)", x.take(0), 0);
        Check.due("take(0) of none", x.take(0), NearMarks.UNKNOWN);
        NearMarks full = Make.full();
        Check.due("take(0) of 40", full.take(0), 39);
        Check.due("markAt(38)", full.markAt(38), 40L);
        Check.due("take(38)", full.take(38), 38);
    }

    private static void promise15() {
        NearMarks x = Make.with(0x1L, 0x2L);
        Check.due("kind(1, 2)", x.kind(1, 2), 0);
        Check.due("kind(1, 1)", x.kind(1, 1), 2);
        Check.due("kind(1, 1) again", x.kind(1, 1), 1);
        Check.due("mark(1, 0)", x.mark(1, 0), 1);
        Check.due("mark(0, 0)", x.mark(0, 0), 0);
        Check.due("kind(1, 0)", x.kind(1, 0), 1);
        Check.due("kind(2, 0)", x.kind(2, 0), NearMarks.UNKNOWN);
        Check.due("kind(2, 3)", x.kind(2, 3), NearMarks.UNKNOWN);
        Check.due("kind(0, 3)", x.kind(0, 3), NearMarks.OUTSIDE);
        for (int number : WRONG) {
            Check.due("kind(" + number + ", 0)", x.kind(number, 0), NearMarks.UNKNOWN);
            Check.due("kind(0, " + number + ")", x.kind(0, number), NearMarks.OUTSIDE);
        }
        Check.due("mark(0, 0)", x.mark(0, 0), 0);
    }

    /** The draws as the document tells them, told again with whole numbers that do not wrap. */
    private static void promise16() {
        int[] seeds = {0, 1, 7, 181, 65535, 65536, 1103515245, Integer.MAX_VALUE};
        for (int first : seeds) {
            NearMarks x = new NearMarks();
            x.seed(first);
            long[] seed = {first};
            long hand = 0L;
            java.util.List<Long> marks = new java.util.ArrayList<>();
            for (int time = 0; time < 60; time++) {
                long choice = draw(seed, 4);
                if (choice == 0) {
                    draw(seed, 64);
                    hand = draw(seed, 256) * 0x0101_0101_0101_0101L;
                } else if (choice != 3) {
                    hand ^= 1L << draw(seed, 64);
                }
                if (marks.size() < 40 && !marks.contains(hand)) {
                    marks.add(hand);
                }
                Check.due("drift(1) of " + first, x.drift(1), marks.size());
                Check.due("hand() of " + first, x.hand(), hand);
            }
            for (int k = 0; k < marks.size(); k++) {
                Check.due("markAt(" + k + ") of " + first, x.markAt(k), marks.get(k));
            }
            Check.due("seed(0) of " + first, x.seed(0), seed[0]);
        }
    }

    private static long draw(long[] seed, long n) {
        java.math.BigInteger next = java.math.BigInteger.valueOf(seed[0])
            .multiply(java.math.BigInteger.valueOf(1103515245L))
            .add(java.math.BigInteger.valueOf(12345L))
            .mod(java.math.BigInteger.ONE.shiftLeft(31));
        seed[0] = next.longValueExact();
        return seed[0] / 65536 % n;
    }

    private static void promise16putsKeptAndStopsWhenFull() {
        NearMarks many = new NearMarks();
        NearMarks single = new NearMarks();
        for (int time = 0; time < 20; time++) {
            single.drift(1);
        }
        Check.due("drift(20) as twenty times drift(1)", many.drift(20), single.told(0));
        Check.due("hand() of both", many.hand(), single.hand());
        for (int k = 0; k < many.told(0); k++) {
            Check.due("mark(" + k + ", 0) after drift", many.mark(k, 0), 0);
        }
        NearMarks full = Make.full();
        Check.due("drift(20) when full", full.drift(20), 40);
        Check.due("drift(0)", many.drift(0), NearMarks.OUTSIDE);
        Check.due("drift(21)", many.drift(21), NearMarks.OUTSIDE);
        for (int n : WRONG) {
            Check.due("drift(" + n + ")", many.drift(n), NearMarks.OUTSIDE);
        }
        Check.due("seed(0) after refused ones", many.seed(0), single.seed(0));
    }

    private static void promise17ofEachDeed() {
        for (int deed = 0; deed < 10; deed++) {
            NearMarks x = Make.with(0x1L, 0x1E00L, -1L);
            Make.hand(x, BENT);
            x.kind(1, 2);
            x.cut(0x101L);
            x.keep(0);
            String before = Make.picture(x);
            doDeed(x, deed);
            Check.holds("deed " + deed + " changes the state", !Make.picture(x).equals(before));
            Check.due("told(16) after deed " + deed, x.told(16), 1);
            Check.due("undo(1) of deed " + deed, x.undo(1), 3);
            Check.holds("deed " + deed + " is undone", Make.picture(x).equals(before));
        }
    }

    private static void doDeed(NearMarks x, int deed) {
        switch (deed) {
            case 0: x.type(2, 77); break;
            case 1: x.flip(63); break;
            case 2: x.turn(); break;
            case 3: x.mirror(); break;
            case 4: x.hold(1); break;
            case 5: x.put(1); break;
            case 6: x.cut(0x8181L); break;
            case 7: x.take(1); break;
            case 8: x.kind(0, 1); break;
            default: x.drift(1); break;
        }
    }

    private static void promise17ofMany() {
        NearMarks x = new NearMarks();
        long[] then = new long[30];
        for (int n = 0; n < 30; n++) {
            then[n] = x.hand();
            x.flip(n * 7 % 64);
        }
        Check.due("undo(3)", x.undo(3), 0);
        Check.due("hand() when 3 are undone", x.hand(), then[27]);
        Check.due("undo(17)", x.undo(17), 0);
        Check.due("hand() when 20 are undone", x.hand(), then[10]);
        Check.due("undo(1) of none", x.undo(1), NearMarks.NOT);

        NearMarks drifts = new NearMarks();
        drifts.flip(3);
        drifts.put(0);
        drifts.seed(5);
        drifts.drift(6);
        Check.due("told(16), each of the times", drifts.told(16), 8);
        drifts.undo(6);
        Check.due("hand() ahead of them", drifts.hand(), 8L);
        Check.due("told(0) ahead of them", drifts.told(0), 1);
        Check.due("undo(2)", drifts.undo(2), 0);
        Check.due("hand() at first", drifts.hand(), 0L);

        NearMarks idle = Make.with(0x1L);
        idle.keep(1);
        idle.turn();
        idle.type(0, 0);
        idle.kind(0, 0);
        idle.cut(0x0001_0001_0001_0001L);
        idle.hold(0);
        idle.hold(0);
        Check.due("told(16): deeds that change nothing, too", idle.told(16), 6);
        Check.due("undo(6)", idle.undo(6), 1);
    }

    private static void promise17leavesSeedSeenAndBook() {
        NearMarks x = Make.with(0x1L, 0x3L);
        x.keep(0);
        x.drift(2);
        x.see(1);
        x.write(0, 1, 1);
        x.seed(99);
        x.undo(2);
        Check.due("told(10) after undo", x.told(10), 1);
        Check.due("told(14) after undo", x.told(14), 1);
        Check.due("told(16): these are no deeds", x.told(16), 0);
        Check.due("the seed stays", x.seed(0), 99);
    }

    private static void promise17refused() {
        NearMarks x = new NearMarks();
        x.flip(0);
        x.flip(1);
        Check.due("undo(3) of two", x.undo(3), NearMarks.NOT);
        Check.due("undo(20) of two", x.undo(20), NearMarks.NOT);
        Check.due("undo(21) of two", x.undo(21), NearMarks.OUTSIDE);
        Check.due("undo(0)", x.undo(0), NearMarks.OUTSIDE);
        for (int n : WRONG) {
            Check.due("undo(" + n + ")", x.undo(n), NearMarks.OUTSIDE);
        }
        Check.due("hand()", x.hand(), 3L);
        Check.due("told(16)", x.told(16), 2);
        Check.due("undo(2)", x.undo(2), 0);
        Check.due("hand()", x.hand(), 0L);
    }

    private static void refusedChangesNothing() {
        NearMarks x = Make.full();
        x.hold(4);
        String before = Make.picture(x);
        x.type(8, 1);
        x.type(1, 256);
        x.flip(64);
        x.hold(40);
        x.put(0);
        x.put(3);
        x.cut(2L);
        x.take(40);
        x.kind(40, 0);
        x.kind(0, 3);
        x.drift(21);
        x.undo(21);
        x.see(65);
        x.write(0, 0, 1);
        x.write(0, 1, 65);
        x.seed(-1);
        x.keep(2);
        x.goBack(1);
        x.goBack(2);
        Check.holds("what is refused changes nothing", Make.picture(x).equals(before));
        Check.due("the seed then", x.seed(3), 0);
    }
}
