/**
 * Marks of sixty-four bits, and those within few bits of one: the bits are cut into one part more
 * than may differ, so that two near marks have a part alike, and only marks with one are looked at.
 */
public final class NearMarks {
    public static final int NONE = -1, UNKNOWN = -1000000001, OUTSIDE = -1000000002, NOT = -1000000003, FULL = -1000000004;

    private static final int BITS = 64;
    private static final int SIDE = 8;
    private static final int ROW_OF_DOTS = 255;
    private static final int MOST_MARKS = 40;
    private static final int MOST_PARTS = 8;
    private static final int MOST_SEEN = 6;
    private static final int MOST_ENTRIES = 20;
    private static final int MOST_UNDONE = 20;
    private static final int MOST_DRIFTS = 20;
    private static final int IMAGES = 2;
    private static final int WAYS_TO_CUT = 3;
    private static final int KEPT = 0, SHUN = 1, SEEK = 2;
    private static final long FIRST_CUT = 0x0001000100010001L;

    private final State now;
    private final Past past;
    private final Image[] images;
    private final Parts parts;
    private final Parts trial;
    private final Grouping grouping;
    private final Columns columns;
    private final Sightings sightings;
    private final Book book;
    private final Draws draws;

    public NearMarks() {
        now = new State();
        past = new Past();
        images = new Image[IMAGES];
        for (int i = 0; i < IMAGES; i++) {
            images[i] = new Image();
        }
        parts = new Parts();
        parts.beginAt(now.begins);
        trial = new Parts();
        grouping = new Grouping();
        columns = new Columns();
        sightings = new Sightings();
        book = new Book();
        draws = new Draws();
    }

    // ---- marks

    public int told(int what) {
        switch (what) {
            case 0: return now.count;
            case 1: return parts.count;
            case 2: return Long.bitCount(now.inHand);
            case 3: return now.numberOf(now.inHand);
            case 4: return countLookedAt(NONE);
            case 5: return countLookedAt(parts.reach());
            case 6: return now.byDistance(0);
            case 7: return leastDistance();
            case 8: return columns.countDead(now);
            case 9: return columns.firstPair(now);
            case 10: return sightings.count;
            case 11: return Long.bitCount(sightings.fitting(now));
            case 12: return sightings.leastFitting(now);
            case 13: return sightings.bestToAsk(now);
            case 14: return book.count;
            case 15: return book.firstWrong(now);
            case 16: return past.count;
            default: return OUTSIDE;
        }
    }

    public long hand() {
        return now.inHand;
    }

    public long markAt(int k) {
        return now.has(k) ? now.marks[k] : 0L;
    }

    public int mark(int k, int what) {
        if (!now.has(k)) {
            return UNKNOWN;
        }
        switch (what) {
            case 0: return now.kinds[k];
            case 1: return Long.bitCount(now.marks[k]);
            case 2: return now.fromHand(k);
            case 3: return countOthersWithin(k, parts.reach());
            case 4: return parts.anyAlike(now.marks[k] ^ now.inHand) ? 1 : 0;
            default: return OUTSIDE;
        }
    }

    public int part(int p, int what) {
        if (p < 0 || p >= parts.count) {
            return UNKNOWN;
        }
        switch (what) {
            case 0: return parts.firsts[p];
            case 1: return Long.bitCount(parts.masks[p]);
            case 2: return countWithPart(parts.masks[p]);
            default: return OUTSIDE;
        }
    }

    /** Those looked at that are farther than this; every one is farther than NONE. */
    private int countLookedAt(int beyond) {
        int found = 0;
        for (int k = 0; k < now.count; k++) {
            if (now.fromHand(k) > beyond && parts.anyAlike(now.marks[k] ^ now.inHand)) {
                found++;
            }
        }
        return found;
    }

    private int leastDistance() {
        int k = now.byDistance(0);
        return now.has(k) ? now.fromHand(k) : NONE;
    }

    private int countOthersWithin(int k, int most) {
        int found = 0;
        for (int other = 0; other < now.count; other++) {
            if (other != k && now.between(other, k) <= most) {
                found++;
            }
        }
        return found;
    }

    private int countWithPart(long mask) {
        int found = 0;
        for (int k = 0; k < now.count; k++) {
            if (((now.marks[k] ^ now.inHand) & mask) == 0L) {
                found++;
            }
        }
        return found;
    }

    // ---- deeds

    public int type(int r, int dots) {
        if (r < 0 || r >= SIDE || dots < 0 || dots > ROW_OF_DOTS) {
            return OUTSIDE;
        }
        past.remember(now);
        now.inHand = Picture.withRow(now.inHand, r, dots);
        return Long.bitCount(now.inHand);
    }

    public int flip(int bit) {
        if (bit < 0 || bit >= BITS) {
            return OUTSIDE;
        }
        past.remember(now);
        now.inHand ^= 1L << bit;
        return Long.bitCount(now.inHand);
    }

    public int turn() {
        past.remember(now);
        now.inHand = Picture.turned(now.inHand);
        return Picture.firstRow(now.inHand);
    }

    public int mirror() {
        past.remember(now);
        now.inHand = Picture.mirrored(now.inHand);
        return Picture.firstRow(now.inHand);
    }

    public int hold(int k) {
        if (!now.has(k)) {
            return UNKNOWN;
        }
        int distance = now.fromHand(k);
        past.remember(now);
        now.inHand = now.marks[k];
        return distance;
    }

    public int put(int kind) {
        if (!isKind(kind)) {
            return OUTSIDE;
        }
        if (now.numberOf(now.inHand) != NONE) {
            return NOT;
        }
        if (now.count >= MOST_MARKS) {
            return FULL;
        }
        past.remember(now);
        now.addHand(kind);
        return now.count - 1;
    }

    public int cut(long begins) {
        if ((begins & 1L) == 0L || Long.bitCount(begins) > MOST_PARTS) {
            return OUTSIDE;
        }
        past.remember(now);
        now.begins = begins;
        parts.beginAt(begins);
        return parts.reach();
    }

    public int take(int k) {
        if (!now.has(k)) {
            return UNKNOWN;
        }
        past.remember(now);
        now.remove(k);
        return now.count;
    }

    public int kind(int k, int kind) {
        if (!now.has(k)) {
            return UNKNOWN;
        }
        if (!isKind(kind)) {
            return OUTSIDE;
        }
        int before = now.kinds[k];
        past.remember(now);
        now.kinds[k] = kind;
        return before;
    }

    public int drift(int n) {
        if (n < 1 || n > MOST_DRIFTS) {
            return OUTSIDE;
        }
        for (int time = 0; time < n; time++) {
            past.remember(now);
            changeHandByDraws();
            putIfUnlikeAll();
        }
        return now.count;
    }

    public int undo(int n) {
        if (n < 1 || n > MOST_UNDONE) {
            return OUTSIDE;
        }
        if (n > past.count) {
            return NOT;
        }
        past.bringBack(n, now);
        parts.beginAt(now.begins);
        return now.count;
    }

    private static boolean isKind(int kind) {
        return kind >= KEPT && kind <= SEEK;
    }

    private void changeHandByDraws() {
        int choice = draws.next(4);
        if (choice == 0) {
            // The document draws a number here that it does not use.
            draws.next(BITS);
            now.inHand = Picture.ofEqualRows(draws.next(ROW_OF_DOTS + 1));
        } else if (choice < 3) {
            now.inHand ^= 1L << draws.next(BITS);
        }
    }

    private void putIfUnlikeAll() {
        if (now.count < MOST_MARKS && now.numberOf(now.inHand) == NONE) {
            now.addHand(KEPT);
        }
    }

    // ---- asked

    public long near(int b) {
        if (!isDistance(b)) {
            return 0L;
        }
        long found = 0L;
        for (int k = 0; k < now.count; k++) {
            if (isNear(k, b)) {
                found |= 1L << k;
            }
        }
        return found;
    }

    public int nearest(int k) {
        return now.byDistance(k);
    }

    public int apart(int j, int k) {
        return now.hasBoth(j, k) ? now.between(j, k) : UNKNOWN;
    }

    public int groups(int b) {
        if (!isDistance(b)) {
            return OUTSIDE;
        }
        grouping.join(now, b);
        return grouping.count;
    }

    public int group(int b, int g, int what) {
        if (!isDistance(b)) {
            return OUTSIDE;
        }
        grouping.join(now, b);
        if (!grouping.has(g)) {
            return UNKNOWN;
        }
        switch (what) {
            case 0: return Long.bitCount(grouping.sets[g]);
            case 1: return leastOf(grouping.sets[g]);
            case 2: return now.widthOf(grouping.sets[g]);
            default: return OUTSIDE;
        }
    }

    public long middle(int b, int g) {
        if (!isDistance(b)) {
            return 0L;
        }
        grouping.join(now, b);
        return grouping.has(g) ? columns.mostOf(now, grouping.sets[g]) : 0L;
    }

    public int fewest(int p, int what) {
        if (p < 1 || p > MOST_PARTS || what < 0 || what > 1) {
            return OUTSIDE;
        }
        int least = 0;
        int which = NONE;
        for (int way = 0; way < WAYS_TO_CUT; way++) {
            trial.beginEvenly(p, way);
            int looks = countAllLooks(trial);
            if (which == NONE || looks < least) {
                least = looks;
                which = way;
            }
        }
        return what == 0 ? least : which;
    }

    private static boolean isDistance(int number) {
        return number >= 0 && number <= BITS;
    }

    private boolean isNear(int k, int b) {
        int distance = now.fromHand(k);
        if (distance > b || now.kinds[k] == SHUN) {
            return false;
        }
        return now.kinds[k] == KEPT || b >= parts.reach() || distance <= b / 2;
    }

    private int countAllLooks(Parts byParts) {
        int pairs = 0;
        for (int j = 0; j < now.count; j++) {
            for (int k = j + 1; k < now.count; k++) {
                if (byParts.anyAlike(now.marks[j] ^ now.marks[k])) {
                    pairs++;
                }
            }
        }
        return now.count + 2 * pairs;
    }

    private static int leastOf(long set) {
        for (int k = 0; k < BITS; k++) {
            if (hasBit(set, k)) {
                return k;
            }
        }
        return NONE;
    }

    private static boolean hasBit(long set, int k) {
        return (set >>> k & 1L) != 0L;
    }

    private static int distanceOf(long one, long other) {
        return Long.bitCount(one ^ other);
    }

    // ---- what is seen, the book

    public int see(int apart) {
        if (!isDistance(apart)) {
            return OUTSIDE;
        }
        if (sightings.count >= MOST_SEEN) {
            return FULL;
        }
        sightings.add(now.inHand, apart);
        return sightings.count;
    }

    public int write(int j, int k, int apart) {
        if (!now.hasBoth(j, k)) {
            return UNKNOWN;
        }
        if (!isDistance(apart)) {
            return OUTSIDE;
        }
        if (book.count >= MOST_ENTRIES) {
            return FULL;
        }
        book.add(j, k, apart);
        return book.count;
    }

    public int tear() {
        int both = sightings.count + book.count;
        sightings.count = 0;
        book.count = 0;
        return both;
    }

    // ---- images

    public int seed(int v) {
        if (v < 0) {
            return OUTSIDE;
        }
        int before = draws.state;
        draws.state = v;
        return before;
    }

    public int keep(int i) {
        if (i < 0 || i >= IMAGES) {
            return UNKNOWN;
        }
        images[i].state.become(now);
        images[i].draws = draws.state;
        images[i].kept = true;
        past.forget();
        return 1;
    }

    public int goBack(int i) {
        if (i < 0 || i >= IMAGES) {
            return UNKNOWN;
        }
        if (!images[i].kept) {
            return NOT;
        }
        now.become(images[i].state);
        draws.state = images[i].draws;
        parts.beginAt(now.begins);
        past.forget();
        return 1;
    }

    /** What deeds change and undoing brings back: the mark in hand, the store, the cut. */
    private static final class State {
        long inHand;
        long begins;
        int count;
        final long[] marks;
        final int[] kinds;

        State() {
            begins = FIRST_CUT;
            marks = new long[MOST_MARKS];
            kinds = new int[MOST_MARKS];
        }

        void become(State other) {
            inHand = other.inHand;
            begins = other.begins;
            count = other.count;
            for (int k = 0; k < count; k++) {
                marks[k] = other.marks[k];
                kinds[k] = other.kinds[k];
            }
        }

        boolean has(int k) {
            return k >= 0 && k < count;
        }

        boolean hasBoth(int j, int k) {
            return has(j) && has(k) && j != k;
        }

        int numberOf(long wanted) {
            for (int k = 0; k < count; k++) {
                if (marks[k] == wanted) {
                    return k;
                }
            }
            return NONE;
        }

        void addHand(int kind) {
            if (count < MOST_MARKS) {
                marks[count] = inHand;
                kinds[count] = kind;
                count++;
            }
        }

        void remove(int k) {
            for (int later = k + 1; later < count; later++) {
                marks[later - 1] = marks[later];
                kinds[later - 1] = kinds[later];
            }
            count--;
        }

        int fromHand(int k) {
            return distanceOf(marks[k], inHand);
        }

        int between(int j, int k) {
            return distanceOf(marks[j], marks[k]);
        }

        /** The mark that has just so many others ahead of it, by distance and then by number. */
        int byDistance(int ahead) {
            for (int k = 0; k < count; k++) {
                if (countNearerThan(k) == ahead) {
                    return k;
                }
            }
            return NONE;
        }

        int countNearerThan(int k) {
            int distance = fromHand(k);
            int nearer = 0;
            for (int other = 0; other < count; other++) {
                int others = fromHand(other);
                if (others < distance || others == distance && other < k) {
                    nearer++;
                }
            }
            return nearer;
        }

        int widthOf(long set) {
            int widest = 0;
            for (int j = 0; j < count; j++) {
                for (int k = j + 1; k < count; k++) {
                    if (hasBit(set, j) && hasBit(set, k)) {
                        widest = Math.max(widest, between(j, k));
                    }
                }
            }
            return widest;
        }
    }

    /** The latest states ahead of deeds, in a ring: the oldest gives way to the newest. */
    private static final class Past {
        final State[] ring;
        int next;
        int count;

        Past() {
            ring = new State[MOST_UNDONE];
            for (int i = 0; i < MOST_UNDONE; i++) {
                ring[i] = new State();
            }
        }

        void remember(State state) {
            ring[next].become(state);
            next = next + 1 < MOST_UNDONE ? next + 1 : 0;
            count = Math.min(count + 1, MOST_UNDONE);
        }

        void bringBack(int deeds, State state) {
            next = next >= deeds ? next - deeds : next - deeds + MOST_UNDONE;
            count -= deeds;
            state.become(ring[next]);
        }

        void forget() {
            count = 0;
        }
    }

    private static final class Image {
        final State state;
        int draws;
        boolean kept;

        Image() {
            state = new State();
        }
    }

    private static final class Parts {
        final int[] firsts;
        final long[] masks;
        int count;

        Parts() {
            firsts = new int[MOST_PARTS];
            masks = new long[MOST_PARTS];
        }

        int reach() {
            return count - 1;
        }

        void beginAt(long begins) {
            count = 0;
            for (int bit = 0; bit < BITS; bit++) {
                if (hasBit(begins, bit) && count < MOST_PARTS) {
                    firsts[count] = bit;
                    masks[count] = 0L;
                    count++;
                }
                if (count > 0) {
                    masks[count - 1] |= 1L << bit;
                }
            }
        }

        void beginEvenly(int wanted, int way) {
            int width = BITS / Math.max(wanted, 1);
            int over = BITS - width * wanted;
            long begins = 0L;
            int bit = 0;
            for (int p = 0; p < wanted; p++) {
                begins |= 1L << bit;
                bit += turnOf(p, wanted, way) < over ? width + 1 : width;
            }
            beginAt(begins);
        }

        /** How many parts are given a bit that is left over ahead of part p. */
        static int turnOf(int p, int wanted, int way) {
            if (way == 0) {
                return p;
            }
            if (way == 1) {
                return wanted - 1 - p;
            }
            return p % 2 == 0 ? p / 2 : (wanted + 1) / 2 + p / 2;
        }

        /** Whether two marks that differ in these bits have a part alike. */
        boolean anyAlike(long differing) {
            for (int p = 0; p < count; p++) {
                if ((differing & masks[p]) == 0L) {
                    return true;
                }
            }
            return false;
        }
    }

    /** The marks in groups, each a set of their numbers. */
    private static final class Grouping {
        final long[] sets;
        final long[] close;
        int count;

        Grouping() {
            sets = new long[MOST_MARKS];
            close = new long[MOST_MARKS];
        }

        boolean has(int g) {
            return g >= 0 && g < count;
        }

        void join(State state, int most) {
            findClose(state, most);
            long grouped = 0L;
            count = 0;
            for (int k = 0; k < state.count; k++) {
                if (!hasBit(grouped, k)) {
                    sets[count] = spread(k, state.count);
                    grouped |= sets[count];
                    count++;
                }
            }
        }

        void findClose(State state, int most) {
            for (int j = 0; j < state.count; j++) {
                close[j] = 0L;
                for (int k = 0; k < state.count; k++) {
                    if (state.between(j, k) <= most) {
                        close[j] |= 1L << k;
                    }
                }
            }
        }

        long spread(int from, int marks) {
            long set = close[from];
            // Each round but the last brings one mark more at least.
            for (int round = 0; round < marks; round++) {
                long before = set;
                for (int k = 0; k < marks; k++) {
                    if (hasBit(set, k)) {
                        set |= close[k];
                    }
                }
                if (set == before) {
                    break;
                }
            }
            return set;
        }
    }

    /** For each bit the set of the marks that have it: two bits are compared over all marks at once. */
    private static final class Columns {
        final long[] sets;
        long all;

        Columns() {
            sets = new long[BITS];
        }

        void read(State state) {
            all = (1L << state.count) - 1L;
            for (int bit = 0; bit < BITS; bit++) {
                sets[bit] = 0L;
                for (int k = 0; k < state.count; k++) {
                    sets[bit] |= (state.marks[k] >>> bit & 1L) << k;
                }
            }
        }

        boolean isDead(int bit) {
            return sets[bit] == 0L || sets[bit] == all;
        }

        int countDead(State state) {
            read(state);
            int dead = 0;
            for (int bit = 0; bit < BITS; bit++) {
                if (isDead(bit)) {
                    dead++;
                }
            }
            return dead;
        }

        int firstPair(State state) {
            read(state);
            for (int lesser = 0; lesser < BITS; lesser++) {
                for (int other = lesser + 1; other < BITS; other++) {
                    if (goTogether(lesser, other)) {
                        return BITS * lesser + other;
                    }
                }
            }
            return NONE;
        }

        boolean goTogether(int one, int other) {
            // A bit that goes with one that isn't dead can't be dead itself.
            return !isDead(one) && (sets[one] == sets[other] || sets[one] == (all ^ sets[other]));
        }

        long mostOf(State state, long group) {
            read(state);
            int marks = Long.bitCount(group);
            long middle = 0L;
            for (int bit = 0; bit < BITS; bit++) {
                if (2 * Long.bitCount(sets[bit] & group) > marks) {
                    middle |= 1L << bit;
                }
            }
            return middle;
        }
    }

    /** How far an unknown mark of the store was from marks that were in hand. */
    private static final class Sightings {
        final long[] from;
        final int[] distances;
        final int[] tally;
        int count;

        Sightings() {
            from = new long[MOST_SEEN];
            distances = new int[MOST_SEEN];
            tally = new int[BITS + 1];
        }

        void add(long mark, int distance) {
            if (count < MOST_SEEN) {
                from[count] = mark;
                distances[count] = distance;
                count++;
            }
        }

        boolean fits(long mark) {
            for (int i = 0; i < count; i++) {
                if (distanceOf(mark, from[i]) != distances[i]) {
                    return false;
                }
            }
            return true;
        }

        long fitting(State state) {
            long set = 0L;
            for (int k = 0; k < state.count; k++) {
                if (fits(state.marks[k])) {
                    set |= 1L << k;
                }
            }
            return set;
        }

        int leastFitting(State state) {
            return leastOf(fitting(state));
        }

        int bestToAsk(State state) {
            long could = fitting(state);
            int least = Long.bitCount(could);
            int best = NONE;
            for (int k = 0; k < state.count; k++) {
                int greatest = greatestLeft(state, could, k);
                if (greatest < least) {
                    least = greatest;
                    best = k;
                }
            }
            return best;
        }

        /** How many marks could still be meant, at worst, when the distance from mark k is told. */
        int greatestLeft(State state, long could, int k) {
            for (int distance = 0; distance <= BITS; distance++) {
                tally[distance] = 0;
            }
            int greatest = 0;
            for (int other = 0; other < state.count; other++) {
                if (hasBit(could, other)) {
                    int distance = state.between(other, k);
                    tally[distance]++;
                    greatest = Math.max(greatest, tally[distance]);
                }
            }
            return greatest;
        }
    }

    /** Pairs of marks by their numbers, and how far apart they are said to be. */
    private static final class Book {
        final int[] ones;
        final int[] others;
        final int[] distances;
        int count;

        Book() {
            ones = new int[MOST_ENTRIES];
            others = new int[MOST_ENTRIES];
            distances = new int[MOST_ENTRIES];
        }

        void add(int one, int other, int distance) {
            if (count < MOST_ENTRIES) {
                ones[count] = one;
                others[count] = other;
                distances[count] = distance;
                count++;
            }
        }

        int firstWrong(State state) {
            for (int i = 0; i < count; i++) {
                if (!isRight(state, i)) {
                    return i;
                }
            }
            return NONE;
        }

        boolean isRight(State state, int i) {
            return state.hasBoth(ones[i], others[i])
                && state.between(ones[i], others[i]) == distances[i];
        }
    }

    private static final class Draws {
        int state;

        int next(int n) {
            state = (int) ((state * 1103515245L + 12345L) & 0x7FFFFFFFL);
            return state / 65536 % Math.max(n, 1);
        }
    }

    /** A mark as a picture of 8 by 8 dots. */
    private static final class Picture {
        static int firstRow(long mark) {
            return (int) (mark & ROW_OF_DOTS);
        }

        static long withRow(long mark, int r, int dots) {
            int shift = SIDE * r;
            return mark & ~((long) ROW_OF_DOTS << shift) | (long) dots << shift;
        }

        static long ofEqualRows(int dots) {
            long mark = 0L;
            for (int r = 0; r < SIDE; r++) {
                mark = withRow(mark, r, dots);
            }
            return mark;
        }

        static boolean hasDot(long mark, int r, int c) {
            return hasBit(mark, SIDE * r + c);
        }

        static long dotAt(int r, int c) {
            return 1L << SIDE * r + c;
        }

        static long turned(long mark) {
            long picture = 0L;
            for (int r = 0; r < SIDE; r++) {
                for (int c = 0; c < SIDE; c++) {
                    if (hasDot(mark, r, c)) {
                        picture |= dotAt(c, SIDE - 1 - r);
                    }
                }
            }
            return picture;
        }

        static long mirrored(long mark) {
            long picture = 0L;
            for (int r = 0; r < SIDE; r++) {
                for (int c = 0; c < SIDE; c++) {
                    if (hasDot(mark, r, c)) {
                        picture |= dotAt(r, SIDE - 1 - c);
                    }
                }
            }
            return picture;
        }
    }
}
