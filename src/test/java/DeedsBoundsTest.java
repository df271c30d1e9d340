/** Promises 7 to 17, sentence by sentence, at the bounds that each names. */
public final class DeedsBoundsTest {
    private static final int[] FAR = {Integer.MIN_VALUE, Integer.MAX_VALUE};

    public static void main(String[] args) {
        promise7();
        promise7outside();
        promise8();
        promise8outside();
        promise9();
        promise10();
        promise11();
        promise11unknown();
        promise12();
        promise12outside();
        promise12like();
        promise12full();
        promise13();
        promise13outside();
        promise14();
        promise14unknown();
        promise15();
        promise15refused();
        promise16();
        promise16outside();
        promise17();
        promise17outside();
        promise17not();
        Check.end();
    }

    private static void promise7() {
        Doc.promise(7, "TYPED (ROW 0 .. 7, DOTS 0 .. 255): how many BITS are 1 then.");
        NearMarks x = new NearMarks();
        Check.due("type(0, 0)", x.type(0, 0), 0);
        Check.due("type(0, 255)", x.type(0, 255), 8);
        Check.due("type(7, 255)", x.type(7, 255), 16);
        Check.due("type(7, 128)", x.type(7, 128), 9);
        Check.due("hand()", x.hand(), 0x8000_0000_0000_00FFL);
        for (int r = 0; r < 8; r++) {
            x.type(r, 255);
        }
        Check.due("told(2) of all rows", x.told(2), 64);
        Check.due("type(7, 0)", x.type(7, 0), 56);
        Check.due("hand()", x.hand(), 0x00FF_FFFF_FFFF_FFFFL);
    }

    private static void promise7outside() {
        Doc.promise(7, "OUTSIDE.");
        NearMarks x = new NearMarks();
        Check.due("type(-1, 0)", x.type(-1, 0), NearMarks.OUTSIDE);
        Check.due("type(8, 0)", x.type(8, 0), NearMarks.OUTSIDE);
        Check.due("type(0, -1)", x.type(0, -1), NearMarks.OUTSIDE);
        Check.due("type(0, 256)", x.type(0, 256), NearMarks.OUTSIDE);
        for (int number : FAR) {
            Check.due("type(" + number + ", 0)", x.type(number, 0), NearMarks.OUTSIDE);
            Check.due("type(0, " + number + ")", x.type(0, number), NearMarks.OUTSIDE);
        }
        Check.due("hand()", x.hand(), 0L);
        Check.due("told(16)", x.told(16), 0);
    }

    private static void promise8() {
        Doc.promise(8, "FLIPPED (BIT 0 .. 63): how many BITS are 1 then.");
        NearMarks x = new NearMarks();
        Check.due("flip(0)", x.flip(0), 1);
        Check.due("flip(63)", x.flip(63), 2);
        Check.due("hand()", x.hand(), Long.MIN_VALUE + 1);
        Check.due("flip(0) again", x.flip(0), 1);
        Check.due("flip(63) again", x.flip(63), 0);
        Make.hand(x, -1L);
        Check.due("flip(31) of all", x.flip(31), 63);
        Check.due("flip(32)", x.flip(32), 62);
        Check.due("hand()", x.hand(), -1L ^ 3L << 31);
    }

    private static void promise8outside() {
        Doc.promise(8, "OUTSIDE.");
        NearMarks x = new NearMarks();
        Check.due("flip(-1)", x.flip(-1), NearMarks.OUTSIDE);
        Check.due("flip(64)", x.flip(64), NearMarks.OUTSIDE);
        for (int bit : FAR) {
            Check.due("flip(" + bit + ")", x.flip(bit), NearMarks.OUTSIDE);
        }
        Check.due("hand()", x.hand(), 0L);
        Check.due("told(16)", x.told(16), 0);
    }

    private static void promise9() {
        Doc.promise(9, "TURNED: the ROW 0 then.");
        NearMarks x = new NearMarks();
        Check.due("turn() of none", x.turn(), 0);
        // Column 0 becomes row 0, its row 7 at column 0, its row 0 at column 7.
        x.flip(56);
        Check.due("turn() of row 7, column 0", x.turn(), 1);
        NearMarks y = new NearMarks();
        y.flip(0);
        Check.due("turn() of row 0, column 0", y.turn(), 128);
        Make.hand(y, 0x0101_0101_0101_0101L);
        Check.due("turn() of column 0", y.turn(), 255);
        Make.hand(y, 0xFEFE_FEFE_FEFE_FEFEL);
        Check.due("turn() of all other columns", y.turn(), 0);
        Check.due("hand() then", y.hand(), 0xFFFF_FFFF_FFFF_FF00L);
    }

    private static void promise10() {
        Doc.promise(10, "MIRRORED: the ROW 0 then.");
        NearMarks x = new NearMarks();
        Check.due("mirror() of none", x.mirror(), 0);
        int[][] rows = {{1, 128}, {128, 1}, {255, 255}, {15, 240}, {3, 192}, {129, 129}};
        for (int[] row : rows) {
            x.type(0, row[0]);
            Check.due("mirror() of " + row[0], x.mirror(), row[1]);
        }
        Make.hand(x, 0x0101_0101_0101_0100L);
        Check.due("mirror(), nothing in row 0", x.mirror(), 0);
        Check.due("hand() then", x.hand(), 0x8080_8080_8080_8000L);
    }

    private static void promise11() {
        Doc.promise(11, "HELD: how far the mark in hand was APART from it.");
        NearMarks x = Make.with(0x0L, -1L);
        Check.due("hold(0), held already", x.hold(0), 0);
        Check.due("hold(1), all bits", x.hold(1), 64);
        Check.due("hand()", x.hand(), -1L);
        Check.due("hold(1) again", x.hold(1), 0);
        x.flip(63);
        Check.due("hold(1) by the sign", x.hold(1), 1);
        NearMarks full = Make.fullOfBits();
        Check.due("hold(39) of forty", full.hold(39), 1);
        Check.due("hold(0) of forty", full.hold(0), 2);
    }

    private static void promise11unknown() {
        Doc.promise(11, "UNKNOWN.");
        Check.due("hold(0) without marks", new NearMarks().hold(0), NearMarks.UNKNOWN);
        NearMarks full = Make.fullOfBits();
        int deeds = full.told(16);
        Check.due("hold(40)", full.hold(40), NearMarks.UNKNOWN);
        Check.due("hold(-1)", full.hold(-1), NearMarks.UNKNOWN);
        for (int k : FAR) {
            Check.due("hold(" + k + ")", full.hold(k), NearMarks.UNKNOWN);
        }
        Check.due("hand()", full.hand(), 0L);
        Check.due("told(16)", full.told(16), deeds);
    }

    private static void promise12() {
        Doc.promise(12, "PUT, of a KIND (0 .. 2): its number.");
        NearMarks x = new NearMarks();
        for (int k = 0; k < 40; k++) {
            x.flip(k);
            Check.due("put(" + k % 3 + ")", x.put(k % 3), k);
        }
        for (int k : new int[] {0, 1, 2, 37, 38, 39}) {
            Check.due("mark(" + k + ", 0)", x.mark(k, 0), k % 3);
            Check.due("markAt(" + k + ")", x.markAt(k), (2L << k) - 1);
        }
    }

    private static void promise12outside() {
        Doc.promise(12, "OUTSIDE,");
        NearMarks x = new NearMarks();
        Check.due("put(-1)", x.put(-1), NearMarks.OUTSIDE);
        Check.due("put(3)", x.put(3), NearMarks.OUTSIDE);
        for (int kind : FAR) {
            Check.due("put(" + kind + ")", x.put(kind), NearMarks.OUTSIDE);
        }
        Check.due("told(0)", x.told(0), 0);
        Check.due("told(16)", x.told(16), 0);
    }

    private static void promise12like() {
        Doc.promise(12, "NOT: there is a like one;");
        NearMarks x = new NearMarks();
        x.put(1);
        for (int kind = 0; kind < 3; kind++) {
            Check.due("put(" + kind + ") of a like one", x.put(kind), NearMarks.NOT);
        }
        Check.due("put(3) of a like one", x.put(3), NearMarks.OUTSIDE);
        Check.due("told(16)", x.told(16), 1);
        x.take(0);
        Check.due("put(0) when it is taken", x.put(0), 0);
        x.undo(1);
        Check.due("put(0) when that is undone", x.put(0), 0);
        x.turn();
        Check.due("put(0) when turned into itself", x.put(0), NearMarks.NOT);
        NearMarks full = Make.fullOfBits();
        full.hold(39);
        Check.due("put(0) of the last of forty", full.put(0), NearMarks.NOT);
    }

    private static void promise12full() {
        Doc.promise(12, "FULL (40).");
        NearMarks x = Make.fullOfBits();
        Check.due("put(0) when there are 40", x.put(0), NearMarks.FULL);
        Check.due("told(0)", x.told(0), 40);
        x.take(0);
        Check.due("put(0) when there are 39", x.put(0), 39);
        Check.due("markAt(39)", x.markAt(39), 0L);
        x.flip(63);
        Check.due("put(0) when there are 40 again", x.put(0), NearMarks.FULL);
        Check.due("told(3)", x.told(3), NearMarks.NONE);
    }

    private static void promise13() {
        Doc.promise(13, "CUT: PARTS begin with these BITS (a SET of 64, BIT 0 among them, 8 at most): REACH.");
        NearMarks x = new NearMarks();
        Check.due("cut of bit 0", x.cut(1L), 0);
        Check.due("cut of bits 0 and 63", x.cut(Long.MIN_VALUE + 1), 1);
        Check.due("part(1, 0)", x.part(1, 0), 63);
        Check.due("cut of bits 0 and 1", x.cut(3L), 1);
        Check.due("part(0, 1)", x.part(0, 1), 1);
        Check.due("cut of 0 to 7", x.cut(0xFFL), 7);
        Check.due("part(7, 1)", x.part(7, 1), 57);
        Check.due("cut of 0 and 57 to 63", x.cut(0xFEL << 56 | 1L), 7);
        Check.due("part(0, 1)", x.part(0, 1), 57);
        Check.due("part(7, 1)", x.part(7, 1), 1);
        Check.due("cut as it is", x.cut(0xFEL << 56 | 1L), 7);
        Check.due("told(1)", x.told(1), 8);
    }

    private static void promise13outside() {
        Doc.promise(13, "OUTSIDE.");
        NearMarks x = new NearMarks();
        x.cut(0x11L);
        Check.due("cut of none", x.cut(0L), NearMarks.OUTSIDE);
        Check.due("cut without bit 0", x.cut(2L), NearMarks.OUTSIDE);
        Check.due("cut of bit 63 alone", x.cut(Long.MIN_VALUE), NearMarks.OUTSIDE);
        Check.due("cut of eight without bit 0", x.cut(0x1FEL), NearMarks.OUTSIDE);
        Check.due("cut of nine", x.cut(0x1FFL), NearMarks.OUTSIDE);
        Check.due("cut of nine with the sign", x.cut(0xFFL | Long.MIN_VALUE), NearMarks.OUTSIDE);
        Check.due("cut of 64", x.cut(-1L), NearMarks.OUTSIDE);
        Check.due("cut of 63", x.cut(Long.MAX_VALUE), NearMarks.OUTSIDE);
        Check.due("told(1)", x.told(1), 2);
        Check.due("part(1, 0)", x.part(1, 0), 4);
        Check.due("told(16)", x.told(16), 1);
    }

    private static void promise14() {
        Doc.promise(14, "TAKEN (later ones have one number less): how many are left.");
        NearMarks x = Make.fullOfBits();
        x.kind(39, 2);
        x.kind(20, 1);
        Check.due("take(39), the last", x.take(39), 39);
        Check.due("markAt(38)", x.markAt(38), 1L << 38);
        x.undo(1);
        Check.due("mark(39, 0) again", x.mark(39, 0), 2);
        Check.due("take(0), the first", x.take(0), 39);
        Check.due("markAt(0)", x.markAt(0), 2L);
        Check.due("markAt(38)", x.markAt(38), 1L << 39);
        Check.due("mark(38, 0)", x.mark(38, 0), 2);
        Check.due("mark(19, 0)", x.mark(19, 0), 1);
        Check.due("mark(20, 0)", x.mark(20, 0), 0);
        Check.due("take(19), of the midst", x.take(19), 38);
        Check.due("markAt(18): earlier ones stay", x.markAt(18), 1L << 19);
        Check.due("markAt(19)", x.markAt(19), 1L << 21);
        NearMarks one = Make.with(-1L);
        Check.due("take(0) of one", one.take(0), 0);
        Check.due("told(0)", one.told(0), 0);
    }

    private static void promise14unknown() {
        Doc.promise(14, "UNKNOWN.");
        NearMarks one = Make.with(-1L);
        int deeds = one.told(16);
        Check.due("take(1) of one", one.take(1), NearMarks.UNKNOWN);
        Check.due("take(-1)", one.take(-1), NearMarks.UNKNOWN);
        for (int k : FAR) {
            Check.due("take(" + k + ")", one.take(k), NearMarks.UNKNOWN);
        }
        Check.due("told(0)", one.told(0), 1);
        Check.due("told(16)", one.told(16), deeds);
        one.take(0);
        Check.due("take(0) of none", one.take(0), NearMarks.UNKNOWN);
        Check.due("take(40) of forty", Make.full().take(40), NearMarks.UNKNOWN);
    }

    private static void promise15() {
        Doc.promise(15, "A MARK is of a KIND: of which it was.");
        NearMarks x = Make.fullOfBits();
        for (int k : new int[] {0, 39}) {
            Check.due("kind(" + k + ", 2)", x.kind(k, 2), 0);
            Check.due("kind(" + k + ", 1)", x.kind(k, 1), 2);
            Check.due("kind(" + k + ", 0)", x.kind(k, 0), 1);
            Check.due("kind(" + k + ", 0) as it is", x.kind(k, 0), 0);
            x.kind(k, 1);
        }
        Check.due("mark(1, 0): no other's", x.mark(1, 0), 0);
        Check.due("mark(38, 0): no other's", x.mark(38, 0), 0);
        Check.due("mark(39, 0)", x.mark(39, 0), 1);
        Check.due("told(0)", x.told(0), 40);
    }

    private static void promise15refused() {
        Doc.promise(15, "UNKNOWN, OUTSIDE.");
        NearMarks x = Make.with(0x1L);
        x.keep(0);
        Check.due("kind(1, 0)", x.kind(1, 0), NearMarks.UNKNOWN);
        Check.due("kind(-1, 0)", x.kind(-1, 0), NearMarks.UNKNOWN);
        Check.due("kind(0, -1)", x.kind(0, -1), NearMarks.OUTSIDE);
        Check.due("kind(0, 3)", x.kind(0, 3), NearMarks.OUTSIDE);
        Check.due("kind(1, 3): UNKNOWN first", x.kind(1, 3), NearMarks.UNKNOWN);
        for (int number : FAR) {
            Check.due("kind(" + number + ", 0)", x.kind(number, 0), NearMarks.UNKNOWN);
            Check.due("kind(0, " + number + ")", x.kind(0, number), NearMarks.OUTSIDE);
        }
        Check.due("kind(0, 0) without marks", new NearMarks().kind(0, 0), NearMarks.UNKNOWN);
        Check.due("kind(40, 0) of forty", Make.full().kind(40, 0), NearMarks.UNKNOWN);
        Check.due("mark(0, 0)", x.mark(0, 0), 0);
        Check.due("told(16)", x.told(16), 0);
    }

    private static void promise16() {
        Doc.promise(16, "n times BY DRAWS (1 .. 20): MARKS.");
        NearMarks one = new NearMarks();
        NearMarks many = new NearMarks();
        int marks = 0;
        for (int time = 0; time < 20; time++) {
            marks = one.drift(1);
        }
        Check.due("drift(20) as twenty times drift(1)", many.drift(20), marks);
        Check.due("hand() of both", many.hand(), one.hand());
        Check.due("told(0) of both", many.told(0), one.told(0));
        Check.due("the seed of both", many.seed(1), one.seed(1));
        NearMarks full = Make.fullOfBits();
        Check.due("drift(1) of forty", full.drift(1), 40);
        Check.due("drift(20) of forty", full.drift(20), 40);
        Check.due("told(16)", full.told(16), 20);
    }

    private static void promise16outside() {
        Doc.promise(16, "OUTSIDE.");
        NearMarks x = new NearMarks();
        Check.due("drift(0)", x.drift(0), NearMarks.OUTSIDE);
        Check.due("drift(21)", x.drift(21), NearMarks.OUTSIDE);
        Check.due("drift(-1)", x.drift(-1), NearMarks.OUTSIDE);
        for (int n : FAR) {
            Check.due("drift(" + n + ")", x.drift(n), NearMarks.OUTSIDE);
        }
        Check.due("told(0)", x.told(0), 0);
        Check.due("told(16)", x.told(16), 0);
        Check.due("the seed", x.seed(0), 0);
    }

    private static void promise17() {
        Doc.promise(17, "The n latest (1 .. 20) are undone: MARKS.");
        for (int n = 1; n <= 20; n++) {
            NearMarks x = new NearMarks();
            for (int k = 0; k < 20; k++) {
                if (k % 2 == 0) {
                    x.flip(k);
                } else {
                    x.put(0);
                }
            }
            // Of 20 deeds 20 less n stay; every other is a put.
            Check.due("undo(" + n + ")", x.undo(n), (20 - n) / 2);
            Check.due("told(0)", x.told(0), (20 - n) / 2);
            Check.due("told(2)", x.told(2), (21 - n) / 2);
            Check.due("told(16)", x.told(16), 20 - n);
        }
        NearMarks full = Make.fullOfBits();
        full.take(7);
        Check.due("undo(1) to forty", full.undo(1), 40);
    }

    private static void promise17outside() {
        Doc.promise(17, "OUTSIDE,");
        NearMarks x = new NearMarks();
        for (int n = 0; n < 25; n++) {
            x.flip(n);
        }
        Check.due("undo(0)", x.undo(0), NearMarks.OUTSIDE);
        Check.due("undo(21)", x.undo(21), NearMarks.OUTSIDE);
        Check.due("undo(-1)", x.undo(-1), NearMarks.OUTSIDE);
        for (int n : FAR) {
            Check.due("undo(" + n + ")", x.undo(n), NearMarks.OUTSIDE);
        }
        Check.due("told(16)", x.told(16), 20);
        Check.due("told(2)", x.told(2), 25);
        Check.due("undo(0) of a new object", new NearMarks().undo(0), NearMarks.OUTSIDE);
        Check.due("undo(21) of a new object", new NearMarks().undo(21), NearMarks.OUTSIDE);
    }

    private static void promise17not() {
        Doc.promise(17, "NOT: not so many.");
        NearMarks x = new NearMarks();
        Check.due("undo(1) of none", x.undo(1), NearMarks.NOT);
        Check.due("undo(20) of none", x.undo(20), NearMarks.NOT);
        x.flip(0);
        Check.due("undo(2) of one", x.undo(2), NearMarks.NOT);
        Check.due("hand()", x.hand(), 1L);
        Check.due("undo(1) of one", x.undo(1), 0);
        Check.due("undo(1) of none again", x.undo(1), NearMarks.NOT);
        for (int n = 0; n < 19; n++) {
            x.flip(n);
        }
        Check.due("undo(20) of nineteen", x.undo(20), NearMarks.NOT);
        Check.due("told(16)", x.told(16), 19);
        Check.due("undo(19) of nineteen", x.undo(19), 0);
        Check.due("hand()", x.hand(), 0L);
    }
}
