import java.util.ArrayList;
import java.util.Collections;
import java.util.Comparator;
import java.util.HashMap;
import java.util.List;
import java.util.Map;
import java.util.TreeSet;

/** The document told a second time, slowly, with texts of 0 and 1 in place of numbers of 64 bits. */
final class Model {
    static final int NONE = -1, UNKNOWN = -1000000001, OUTSIDE = -1000000002, NOT = -1000000003, FULL = -1000000004;

    /** A mark is a text of 64 signs, bit 0 the first. */
    record Mark(String bits, int kind) { }

    record Scene(String hand, List<Mark> store, List<Integer> cut) { }

    record Image(Scene scene, long seed) { }

    record Sight(String from, int apart) { }

    record Entry(int j, int k, int apart) { }

    private String hand = "0".repeat(64);
    private List<Mark> store = new ArrayList<>();
    private List<Integer> cut = List.of(0, 16, 32, 48);
    private long seed = 0;
    private final List<Scene> past = new ArrayList<>();
    private final Image[] images = new Image[2];
    private final List<Sight> sights = new ArrayList<>();
    private final List<Entry> book = new ArrayList<>();

    // ---- helpers

    private static int ones(String bits) {
        return (int) bits.chars().filter(sign -> sign == '1').count();
    }

    private static int distance(String a, String b) {
        int differing = 0;
        for (int i = 0; i < 64; i++) {
            if (a.charAt(i) != b.charAt(i)) {
                differing++;
            }
        }
        return differing;
    }

    private static long number(String bits) {
        return Long.parseUnsignedLong(new StringBuilder(bits).reverse().toString(), 2);
    }

    private boolean has(int k) {
        return k >= 0 && k < store.size();
    }

    private String bits(int k) {
        return store.get(k).bits();
    }

    private int reach() {
        return cut.size() - 1;
    }

    private static int endOfPart(List<Integer> begins, int p) {
        return p + 1 < begins.size() ? begins.get(p + 1) : 64;
    }

    private static boolean partAlike(List<Integer> begins, int p, String a, String b) {
        int from = begins.get(p);
        int to = endOfPart(begins, p);
        return a.substring(from, to).equals(b.substring(from, to));
    }

    private static boolean anyPartAlike(List<Integer> begins, String a, String b) {
        for (int p = 0; p < begins.size(); p++) {
            if (partAlike(begins, p, a, b)) {
                return true;
            }
        }
        return false;
    }

    private void remember() {
        past.add(new Scene(hand, new ArrayList<>(store), cut));
        if (past.size() > 20) {
            past.remove(0);
        }
    }

    private void show(Scene scene) {
        hand = scene.hand();
        store = new ArrayList<>(scene.store());
        cut = scene.cut();
    }

    // ---- marks

    long told(int what) {
        switch (what) {
            case 0: return store.size();
            case 1: return cut.size();
            case 2: return ones(hand);
            case 3: return numberOfHand();
            case 4: return store.stream().filter(m -> anyPartAlike(cut, m.bits(), hand)).count();
            case 5: return store.stream().filter(m -> anyPartAlike(cut, m.bits(), hand))
                .filter(m -> distance(m.bits(), hand) > reach()).count();
            case 6: return nearest(0);
            case 7: return store.isEmpty() ? NONE : distance(bits(nearest(0)), hand);
            case 8: return dead().size();
            case 9: return together();
            case 10: return sights.size();
            case 11: return couldBe().size();
            case 12: return couldBe().isEmpty() ? NONE : couldBe().get(0);
            case 13: return ask();
            case 14: return book.size();
            case 15: return wrong();
            case 16: return past.size();
            default: return OUTSIDE;
        }
    }

    private int numberOfHand() {
        for (int k = 0; k < store.size(); k++) {
            if (bits(k).equals(hand)) {
                return k;
            }
        }
        return NONE;
    }

    private String column(int bit) {
        StringBuilder column = new StringBuilder();
        for (Mark mark : store) {
            column.append(mark.bits().charAt(bit));
        }
        return column.toString();
    }

    private List<Integer> dead() {
        List<Integer> dead = new ArrayList<>();
        for (int bit = 0; bit < 64; bit++) {
            if (!column(bit).contains("0") || !column(bit).contains("1")) {
                dead.add(bit);
            }
        }
        return dead;
    }

    private int together() {
        List<Integer> dead = dead();
        for (int i = 0; i < 64; i++) {
            for (int j = i + 1; j < 64; j++) {
                if (dead.contains(i) || dead.contains(j)) {
                    continue;
                }
                String turned = column(j).replace('0', 'x').replace('1', '0').replace('x', '1');
                if (column(i).equals(column(j)) || column(i).equals(turned)) {
                    return 64 * i + j;
                }
            }
        }
        return NONE;
    }

    private List<Integer> couldBe() {
        List<Integer> all = new ArrayList<>();
        for (int k = 0; k < store.size(); k++) {
            String mark = bits(k);
            if (sights.stream().allMatch(sight -> distance(sight.from(), mark) == sight.apart())) {
                all.add(k);
            }
        }
        return all;
    }

    private int ask() {
        List<Integer> could = couldBe();
        int best = NONE;
        int least = Integer.MAX_VALUE;
        for (int k = 0; k < store.size(); k++) {
            Map<Integer, Integer> sizes = new HashMap<>();
            for (int m : could) {
                sizes.merge(distance(bits(k), bits(m)), 1, Integer::sum);
            }
            int greatest = sizes.isEmpty() ? 0 : Collections.max(sizes.values());
            if (sizes.size() > 1 && greatest < least) {
                least = greatest;
                best = k;
            }
        }
        return best;
    }

    private int wrong() {
        for (int i = 0; i < book.size(); i++) {
            Entry entry = book.get(i);
            if (!has(entry.j()) || !has(entry.k()) || distance(bits(entry.j()), bits(entry.k())) != entry.apart()) {
                return i;
            }
        }
        return NONE;
    }

    long hand() {
        return number(hand);
    }

    long markAt(int k) {
        return has(k) ? number(bits(k)) : 0;
    }

    int mark(int k, int what) {
        if (!has(k)) {
            return UNKNOWN;
        }
        switch (what) {
            case 0: return store.get(k).kind();
            case 1: return ones(bits(k));
            case 2: return distance(bits(k), hand);
            case 3: return (int) store.stream().filter(m -> distance(m.bits(), bits(k)) <= reach()).count() - 1;
            case 4: return anyPartAlike(cut, bits(k), hand) ? 1 : 0;
            default: return OUTSIDE;
        }
    }

    int part(int p, int what) {
        if (p < 0 || p >= cut.size()) {
            return UNKNOWN;
        }
        switch (what) {
            case 0: return cut.get(p);
            case 1: return endOfPart(cut, p) - cut.get(p);
            case 2: return (int) store.stream().filter(m -> partAlike(cut, p, m.bits(), hand)).count();
            default: return OUTSIDE;
        }
    }

    // ---- deeds

    int type(int r, int dots) {
        if (r < 0 || r > 7 || dots < 0 || dots > 255) {
            return OUTSIDE;
        }
        remember();
        hand = hand.substring(0, 8 * r) + row(dots) + hand.substring(8 * r + 8);
        return ones(hand);
    }

    private static String row(int dots) {
        StringBuilder row = new StringBuilder();
        for (int c = 0; c < 8; c++) {
            row.append((dots >> c) % 2);
        }
        return row.toString();
    }

    int flip(int bit) {
        if (bit < 0 || bit > 63) {
            return OUTSIDE;
        }
        remember();
        flipHand(bit);
        return ones(hand);
    }

    private void flipHand(int bit) {
        hand = hand.substring(0, bit) + (hand.charAt(bit) == '0' ? '1' : '0') + hand.substring(bit + 1);
    }

    int turn() {
        remember();
        StringBuilder to = new StringBuilder(hand);
        for (int r = 0; r < 8; r++) {
            for (int c = 0; c < 8; c++) {
                to.setCharAt(8 * c + 7 - r, hand.charAt(8 * r + c));
            }
        }
        hand = to.toString();
        return (int) (hand() & 255);
    }

    int mirror() {
        remember();
        StringBuilder to = new StringBuilder();
        for (int r = 0; r < 8; r++) {
            to.append(new StringBuilder(hand.substring(8 * r, 8 * r + 8)).reverse());
        }
        hand = to.toString();
        return (int) (hand() & 255);
    }

    int hold(int k) {
        if (!has(k)) {
            return UNKNOWN;
        }
        remember();
        int was = distance(hand, bits(k));
        hand = bits(k);
        return was;
    }

    int put(int kind) {
        if (kind < 0 || kind > 2) {
            return OUTSIDE;
        }
        if (numberOfHand() != NONE) {
            return NOT;
        }
        if (store.size() == 40) {
            return FULL;
        }
        remember();
        store.add(new Mark(hand, kind));
        return store.size() - 1;
    }

    int cut(long begins) {
        List<Integer> wanted = new ArrayList<>();
        for (int bit = 0; bit < 64; bit++) {
            if ((begins >> bit) % 2 != 0) {
                wanted.add(bit);
            }
        }
        if (!wanted.contains(0) || wanted.size() > 8) {
            return OUTSIDE;
        }
        remember();
        cut = wanted;
        return reach();
    }

    int take(int k) {
        if (!has(k)) {
            return UNKNOWN;
        }
        remember();
        store.remove(k);
        return store.size();
    }

    int kind(int k, int kind) {
        if (!has(k)) {
            return UNKNOWN;
        }
        if (kind < 0 || kind > 2) {
            return OUTSIDE;
        }
        remember();
        return store.set(k, new Mark(bits(k), kind)).kind();
    }

    private int draw(int n) {
        seed = (seed * 1103515245L + 12345L) % 2147483648L;
        return (int) (seed / 65536 % n);
    }

    int drift(int n) {
        if (n < 1 || n > 20) {
            return OUTSIDE;
        }
        for (int time = 0; time < n; time++) {
            remember();
            switch (draw(4)) {
                case 0:
                    draw(64);
                    hand = row(draw(256)).repeat(8);
                    break;
                case 1:
                case 2:
                    flipHand(draw(64));
                    break;
                default:
                    break;
            }
            if (numberOfHand() == NONE && store.size() < 40) {
                store.add(new Mark(hand, 0));
            }
        }
        return store.size();
    }

    int undo(int n) {
        if (n < 1 || n > 20) {
            return OUTSIDE;
        }
        if (n > past.size()) {
            return NOT;
        }
        for (int deed = 0; deed < n; deed++) {
            show(past.remove(past.size() - 1));
        }
        return store.size();
    }

    // ---- asked

    private static boolean within(int number) {
        return number >= 0 && number <= 64;
    }

    long near(int b) {
        if (!within(b)) {
            return 0;
        }
        long set = 0;
        for (int k = 0; k < store.size(); k++) {
            int away = distance(bits(k), hand);
            int kind = store.get(k).kind();
            boolean counts = kind == 0 || kind == 2 && (b >= reach() || away <= b / 2);
            if (away <= b && counts) {
                set += 1L << k;
            }
        }
        return set;
    }

    int nearest(int k) {
        List<Integer> order = new ArrayList<>();
        for (int m = 0; m < store.size(); m++) {
            order.add(m);
        }
        order.sort(Comparator.comparingInt(m -> distance(bits(m), hand)));
        return has(k) ? order.get(k) : NONE;
    }

    int apart(int j, int k) {
        return has(j) && has(k) && j != k ? distance(bits(j), bits(k)) : UNKNOWN;
    }

    private List<TreeSet<Integer>> groupsWithin(int b) {
        List<TreeSet<Integer>> all = new ArrayList<>();
        for (int k = 0; k < store.size(); k++) {
            TreeSet<Integer> joined = new TreeSet<>(List.of(k));
            String mark = bits(k);
            for (TreeSet<Integer> old : new ArrayList<>(all)) {
                if (old.stream().anyMatch(m -> distance(bits(m), mark) <= b)) {
                    joined.addAll(old);
                    all.remove(old);
                }
            }
            all.add(joined);
        }
        all.sort(Comparator.comparingInt(TreeSet::first));
        return all;
    }

    int groups(int b) {
        return within(b) ? groupsWithin(b).size() : OUTSIDE;
    }

    int group(int b, int g, int what) {
        if (!within(b)) {
            return OUTSIDE;
        }
        if (g < 0 || g >= groupsWithin(b).size()) {
            return UNKNOWN;
        }
        TreeSet<Integer> group = groupsWithin(b).get(g);
        switch (what) {
            case 0: return group.size();
            case 1: return group.first();
            case 2: return wide(group);
            default: return OUTSIDE;
        }
    }

    private int wide(TreeSet<Integer> group) {
        int widest = 0;
        for (int j : group) {
            for (int k : group) {
                widest = Math.max(widest, distance(bits(j), bits(k)));
            }
        }
        return widest;
    }

    long middle(int b, int g) {
        if (!within(b) || g < 0 || g >= groupsWithin(b).size()) {
            return 0;
        }
        TreeSet<Integer> group = groupsWithin(b).get(g);
        StringBuilder middle = new StringBuilder();
        for (int bit = 0; bit < 64; bit++) {
            int at = bit;
            long have = group.stream().filter(k -> bits(k).charAt(at) == '1').count();
            middle.append(have > group.size() - have ? '1' : '0');
        }
        return number(middle.toString());
    }

    int fewest(int p, int what) {
        if (p < 1 || p > 8 || what < 0 || what > 1) {
            return OUTSIDE;
        }
        int best = 0;
        for (int way = 1; way < 3; way++) {
            best = looks(evenCut(p, way)) < looks(evenCut(p, best)) ? way : best;
        }
        return what == 0 ? looks(evenCut(p, best)) : best;
    }

    private static List<Integer> evenCut(int p, int way) {
        List<Integer> order = new ArrayList<>();
        for (int i = 0; i < p; i++) {
            order.add(way == 1 ? p - 1 - i : i);
        }
        if (way == 2) {
            order.sort(Comparator.comparingInt(i -> i % 2));
        }
        int[] widths = new int[p];
        for (int i = 0; i < p; i++) {
            widths[order.get(i)] = 64 / p + (i < 64 % p ? 1 : 0);
        }
        List<Integer> begins = new ArrayList<>();
        int at = 0;
        for (int width : widths) {
            begins.add(at);
            at += width;
        }
        return begins;
    }

    private int looks(List<Integer> begins) {
        int all = 0;
        for (Mark from : store) {
            for (Mark at : store) {
                if (anyPartAlike(begins, from.bits(), at.bits())) {
                    all++;
                }
            }
        }
        return all;
    }

    // ---- what is seen, the book

    int see(int apart) {
        if (!within(apart)) {
            return OUTSIDE;
        }
        if (sights.size() == 6) {
            return FULL;
        }
        sights.add(new Sight(hand, apart));
        return sights.size();
    }

    int write(int j, int k, int apart) {
        if (!has(j) || !has(k) || j == k) {
            return UNKNOWN;
        }
        if (!within(apart)) {
            return OUTSIDE;
        }
        if (book.size() == 20) {
            return FULL;
        }
        book.add(new Entry(j, k, apart));
        return book.size();
    }

    int tear() {
        int both = sights.size() + book.size();
        sights.clear();
        book.clear();
        return both;
    }

    // ---- images

    int seed(int v) {
        if (v < 0) {
            return OUTSIDE;
        }
        int was = (int) seed;
        seed = v;
        return was;
    }

    int keep(int i) {
        if (i != 0 && i != 1) {
            return UNKNOWN;
        }
        images[i] = new Image(new Scene(hand, new ArrayList<>(store), cut), seed);
        past.clear();
        return 1;
    }

    int goBack(int i) {
        if (i != 0 && i != 1) {
            return UNKNOWN;
        }
        if (images[i] == null) {
            return NOT;
        }
        show(images[i].scene());
        seed = images[i].seed();
        past.clear();
        return 1;
    }
}
