import java.util.Random;

/** Runs of up to 512 calls, drawn from fixed seeds, on the class and on the slow model of the document. */
public final class ModelTest {
    private static final int RUNS = 400;
    private static final int CALLS = 512;
    private static final int MOST_AT_ONCE = 2;
    private static final int[] EDGES = {Integer.MIN_VALUE, -2, -1, 40, 41, 63, 64, 65, 255, 256, Integer.MAX_VALUE};

    private final Random random;
    private final int run;
    private final NearMarks x = new NearMarks();
    private final Model m = new Model();
    /** How much of a run is putting in, so that some runs have full stores and some nearly empty ones. */
    private final int fullness;
    private int calls = 0;

    private ModelTest(int run) {
        this.run = run;
        random = new Random(run);
        fullness = random.nextInt(4);
    }

    public static void main(String[] args) {
        for (int run = 0; run < RUNS; run++) {
            ModelTest test = new ModelTest(run);
            while (test.calls + MOST_AT_ONCE <= CALLS) {
                test.callOne();
            }
        }
        Check.end();
    }

    private void due(String call, long got, long want) {
        calls++;
        Check.due("run " + run + ": " + call, got, want);
    }

    /** Mostly 0 up to below the bound, at times an edge. */
    private int some(int bound) {
        if (random.nextInt(25) == 0) {
            return EDGES[random.nextInt(EDGES.length)];
        }
        return random.nextInt(bound + (random.nextInt(10) == 0 ? 1 : 0));
    }

    private int someMark() {
        return some(Math.max(1, (int) m.told(0)));
    }

    private int someDistance() {
        return random.nextBoolean() ? some(6) : some(65);
    }

    private int somePair(int[] other) {
        int j = someMark();
        other[0] = random.nextInt(8) == 0 ? j : someMark();
        return j;
    }

    private void callOne() {
        int choice = random.nextInt(10 + 2 * fullness);
        if (choice < 3) {
            change();
        } else if (choice < 8) {
            ask();
        } else if (choice < 10) {
            judge();
        } else {
            putOne();
        }
    }

    private void putOne() {
        if (random.nextInt(3) == 0) {
            int n = some(5);
            due("drift(" + n + ")", x.drift(n), m.drift(n));
            return;
        }
        int bit = some(random.nextBoolean() ? 8 : 64);
        due("flip(" + bit + ")", x.flip(bit), m.flip(bit));
        int kind = some(3);
        due("put(" + kind + ")", x.put(kind), m.put(kind));
    }

    private void change() {
        switch (random.nextInt(14)) {
            case 0: case 1: {
                int r = some(8);
                int dots = random.nextInt(6) == 0 ? some(256) : 1 << random.nextInt(8);
                due("type(" + r + ", " + dots + ")", x.type(r, dots), m.type(r, dots));
                break;
            }
            case 2: due("turn()", x.turn(), m.turn()); break;
            case 3: due("mirror()", x.mirror(), m.mirror()); break;
            case 4: case 5: {
                int k = someMark();
                due("hold(" + k + ")", x.hold(k), m.hold(k));
                break;
            }
            case 6: case 7: {
                int kind = some(3);
                due("put(" + kind + ")", x.put(kind), m.put(kind));
                break;
            }
            case 8: {
                long begins = someCut();
                due("cut(" + begins + ")", x.cut(begins), m.cut(begins));
                break;
            }
            case 9: {
                int k = someMark();
                due("take(" + k + ")", x.take(k), m.take(k));
                break;
            }
            case 10: case 11: {
                int k = someMark();
                int kind = some(3);
                due("kind(" + k + ", " + kind + ")", x.kind(k, kind), m.kind(k, kind));
                break;
            }
            case 12: {
                int n = some(random.nextInt(4) == 0 ? 21 : 4);
                due("drift(" + n + ")", x.drift(n), m.drift(n));
                break;
            }
            default: {
                int n = some(random.nextInt(4) == 0 ? 21 : 4);
                due("undo(" + n + ")", x.undo(n), m.undo(n));
                break;
            }
        }
    }

    private long someCut() {
        long begins = random.nextInt(10) == 0 ? 0L : 1L;
        int more = random.nextInt(9);
        for (int i = 0; i < more; i++) {
            begins |= 1L << random.nextInt(64);
        }
        return begins;
    }

    private void ask() {
        switch (random.nextInt(14)) {
            case 0: case 1: case 2: case 3: case 4: {
                int what = some(17);
                due("told(" + what + ")", x.told(what), m.told(what));
                break;
            }
            case 5: {
                int k = someMark();
                due("hand()", x.hand(), m.hand());
                due("markAt(" + k + ")", x.markAt(k), m.markAt(k));
                break;
            }
            case 6: {
                int k = someMark();
                int what = some(5);
                due("mark(" + k + ", " + what + ")", x.mark(k, what), m.mark(k, what));
                break;
            }
            case 7: {
                int p = some((int) m.told(1));
                int what = some(3);
                due("part(" + p + ", " + what + ")", x.part(p, what), m.part(p, what));
                break;
            }
            case 8: {
                int b = someDistance();
                due("near(" + b + ")", x.near(b), m.near(b));
                break;
            }
            case 9: {
                int k = someMark();
                due("nearest(" + k + ")", x.nearest(k), m.nearest(k));
                break;
            }
            case 10: {
                int[] k = new int[1];
                int j = somePair(k);
                due("apart(" + j + ", " + k[0] + ")", x.apart(j, k[0]), m.apart(j, k[0]));
                break;
            }
            case 11: case 12: askOfGroups(); break;
            default: {
                int p = some(9);
                int what = some(2);
                due("fewest(" + p + ", " + what + ")", x.fewest(p, what), m.fewest(p, what));
                break;
            }
        }
    }

    private void askOfGroups() {
        int b = someDistance();
        int g = some(Math.max(1, m.groups(b)));
        int what = some(3);
        switch (random.nextInt(3)) {
            case 0: due("groups(" + b + ")", x.groups(b), m.groups(b)); break;
            case 1: due("group(" + b + ", " + g + ", " + what + ")", x.group(b, g, what), m.group(b, g, what)); break;
            default: due("middle(" + b + ", " + g + ")", x.middle(b, g), m.middle(b, g)); break;
        }
    }

    private void judge() {
        switch (random.nextInt(9)) {
            case 0: case 1: {
                int k = someMark();
                int away = m.mark(k, 2) >= 0 && random.nextInt(4) != 0 ? m.mark(k, 2) : someDistance();
                due("see(" + away + ")", x.see(away), m.see(away));
                break;
            }
            case 2: case 3: case 4: {
                int[] k = new int[1];
                int j = somePair(k);
                int away = m.apart(j, k[0]) >= 0 && random.nextInt(8) != 0 ? m.apart(j, k[0]) : someDistance();
                due("write(" + j + ", " + k[0] + ", " + away + ")", x.write(j, k[0], away), m.write(j, k[0], away));
                break;
            }
            case 5: due("tear()", x.tear(), m.tear()); break;
            case 6: {
                int v = random.nextBoolean() ? some(1000) : random.nextInt();
                due("seed(" + v + ")", x.seed(v), m.seed(v));
                break;
            }
            case 7: {
                int i = some(2);
                due("keep(" + i + ")", x.keep(i), m.keep(i));
                break;
            }
            default: {
                int i = some(2);
                due("goBack(" + i + ")", x.goBack(i), m.goBack(i));
                break;
            }
        }
    }
}
