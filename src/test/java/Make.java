/** Makes objects in a wanted state with few calls: an object answers for 512 of them. */
final class Make {
    private Make() {
    }

    /** Brings a mark into hand by typing the rows that differ. */
    static void hand(NearMarks x, long mark) {
        long before = x.hand();
        for (int r = 0; r < 8; r++) {
            int dots = (int) (mark >>> 8 * r & 255);
            if (dots != (int) (before >>> 8 * r & 255)) {
                x.type(r, dots);
            }
        }
    }

    static int put(NearMarks x, long mark, int kind) {
        hand(x, mark);
        return x.put(kind);
    }

    /** A new object that holds these marks, all KEPT, with 0 in hand. */
    static NearMarks with(long... marks) {
        NearMarks x = new NearMarks();
        for (long mark : marks) {
            put(x, mark, 0);
        }
        hand(x, 0L);
        return x;
    }

    /** A new object with 40 marks: 1 to 40, and 0 in hand. */
    static NearMarks full() {
        NearMarks x = new NearMarks();
        for (int m = 1; m <= 40; m++) {
            put(x, m, 0);
        }
        hand(x, 0L);
        return x;
    }

    /** A new object with 40 marks, mark k of bit k alone, and 0 in hand. */
    static NearMarks fullOfBits() {
        NearMarks x = new NearMarks();
        for (int k = 0; k < 40; k++) {
            x.flip(k);
            x.put(0);
            x.flip(k);
        }
        return x;
    }

    /** All that a caller can ask of the state, in one line, so that two states can be compared. */
    static String picture(NearMarks x) {
        StringBuilder all = new StringBuilder();
        for (int what = 0; what <= 16; what++) {
            all.append(x.told(what)).append(' ');
        }
        all.append(x.hand());
        int marks = x.told(0);
        for (int k = 0; k < marks; k++) {
            all.append(' ').append(x.markAt(k)).append(':').append(x.mark(k, 0));
        }
        int parts = x.told(1);
        for (int p = 0; p < parts; p++) {
            all.append(' ').append(x.part(p, 0));
        }
        return all.toString();
    }

    /** The picture, and what the seed, undoing and the images bring back; the object is used up by it. */
    static String whole(NearMarks x) {
        StringBuilder all = new StringBuilder(picture(x));
        all.append(" seed ").append(x.seed(0));
        int deeds = x.told(16);
        for (int deed = 0; deed < deeds; deed++) {
            all.append(" undo ").append(x.undo(1)).append(' ').append(sketch(x));
        }
        for (int i = 0; i < 2; i++) {
            all.append(" image ").append(x.goBack(i)).append(' ').append(sketch(x)).append(' ').append(x.seed(0));
        }
        return all.toString();
    }

    private static String sketch(NearMarks x) {
        return x.hand() + " " + x.told(0) + " " + x.told(1) + " " + x.near(64);
    }
}
