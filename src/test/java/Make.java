/** Makes objects in a wanted state with few calls. */
final class Make {
    private Make() {
    }

    /** Brings a mark into hand by typing the rows that differ. */
    static void hand(NearMarks x, long mark) {
        for (int r = 0; r < 8; r++) {
            int dots = (int) (mark >>> 8 * r & 255);
            if (dots != (int) (x.hand() >>> 8 * r & 255)) {
                x.type(r, dots);
            }
        }
    }

    static int put(NearMarks x, long mark, int kind) {
        hand(x, mark);
        return x.put(kind);
    }

    /** A new object that holds these marks, all KEPT, with 0 in hand. */
    static NearMarks with(long... marks) {
        NearMarks x = new NearMarks();
        for (long mark : marks) {
            put(x, mark, 0);
        }
        hand(x, 0L);
        return x;
    }

    /** A new object with 40 marks: 1 to 40, and 0 in hand. */
    static NearMarks full() {
        NearMarks x = new NearMarks();
        for (int m = 1; m <= 40; m++) {
            put(x, m, 0);
        }
        hand(x, 0L);
        return x;
    }

    /** All that a caller can ask of the state, in one line, so that two states can be compared. */
    static String picture(NearMarks x) {
        StringBuilder all = new StringBuilder();
        for (int what = 0; what <= 16; what++) {
            all.append(x.told(what)).append(' ');
        }
        all.append(x.hand());
        for (int k = 0; k < x.told(0); k++) {
            all.append(' ').append(x.markAt(k)).append(':').append(x.mark(k, 0));
        }
        for (int p = 0; p < x.told(1); p++) {
            all.append(' ').append(x.part(p, 0));
        }
        return all.toString();
    }
}
