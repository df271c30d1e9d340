/**
 * What the document says ahead of Terms: what the class is for, each clause as one short use of it, and
 * the 512 calls. Answers of different calls are held against one another here.
 */
public final class FirstLinesTest {
    private static final int MOST_CALLS = 512;
    private static final int[] SEEDS = {1, 191, 4711, 2147483647};

    public static void main(String[] args) {
        marksOfPictures();
        noneIsMissed();
        onePartMoreThanMayDiffer();
        justThoseWithAPartAlike();
        putTakenCutUndone();
        nearLookedAtInVain();
        nearestAndNext();
        groupsAndTheirMiddle();
        cutThatLooksAtFewest();
        deadAndTogether();
        pictureTurnedAndMirrored();
        unknownMark();
        pairsJudged();
        timesByDraws();
        imagesToGoOnFrom();
        fiveHundredAndTwelveCalls();
        Check.end();
    }

    /** A store of marks by draws: some near to one another, some far. */
    private static NearMarks drawn(int seed) {
        NearMarks x = new NearMarks();
        x.seed(seed);
        x.drift(20);
        Check.holds("some twenty marks by seed " + seed, x.drift(20) >= 20);
        return x;
    }

    private static long spread(int parts) {
        long begins = 0L;
        for (int p = 0; p < parts; p++) {
            begins |= 1L << 7 * p;
        }
        return begins;
    }

    private static void marksOfPictures() {
        Doc.first("Marks within few bits: each picture has a mark of sixty-four bits,");
        NearMarks x = new NearMarks();
        for (int bit = 0; bit < 64; bit++) {
            Check.due("type of bit " + bit, x.type(bit / 8, 1 << bit % 8), 1);
            Check.due("hand() with bit " + bit, x.hand(), 1L << bit);
            x.type(bit / 8, 0);
        }
        Doc.first("and alike pictures have marks that differ by a few bits alone,");
        NearMarks pictures = Make.with(0x3C42_A581_A599_423CL, 0x3C42_A581_A599_423DL, 0x0L);
        Check.due("apart of two alike", pictures.apart(0, 1), 1);
        Check.due("apart of two unlike", pictures.apart(0, 2), 26);
    }

    private static void noneIsMissed() {
        Doc.first("so that all marks near to one are wanted, and none may be missed:");
        for (int seed : SEEDS) {
            for (int parts = 1; parts <= 8; parts++) {
                NearMarks x = drawn(seed);
                x.cut(spread(parts));
                int reach = parts - 1;
                long wanted = 0L;
                for (int k = 0; k < x.told(0); k++) {
                    if (x.mark(k, 2) <= reach) {
                        wanted |= 1L << k;
                        Check.due("mark(" + k + ", 4) within reach " + reach, x.mark(k, 4), 1);
                    }
                }
                Check.due("near(" + reach + ") by seed " + seed, x.near(reach), wanted);
                Check.due("looked at less in vain", x.told(4) - x.told(5), Long.bitCount(wanted));
            }
        }
    }

    private static void onePartMoreThanMayDiffer() {
        Doc.first("the bits are cut into parts, one more than may differ, so that at least one part is alike,");
        for (int parts = 1; parts <= 8; parts++) {
            NearMarks x = Make.with(0x0L);
            Check.due("cut into " + parts, x.cut(spread(parts)), parts - 1);
            Check.due("told(1)", x.told(1), parts);
            for (int p = 0; p < parts; p++) {
                Check.due(p + " of " + parts + " parts unlike", x.told(4), 1);
                x.flip(7 * p + 6);
            }
            Check.due("all of " + parts + " parts unlike", x.told(4), 0);
        }
    }

    private static void justThoseWithAPartAlike() {
        Doc.first("and just those that have a part alike are looked at;");
        for (int seed : SEEDS) {
            NearMarks x = drawn(seed);
            int one = 0;
            for (int k = 0; k < x.told(0); k++) {
                long differing = x.markAt(k) ^ x.hand();
                boolean alike = false;
                for (int p = 0; p < 4; p++) {
                    alike |= (differing >>> 16 * p & 0xFFFFL) == 0L;
                }
                Check.due("mark(" + k + ", 4)", x.mark(k, 4), alike ? 1 : 0);
                one += alike ? 1 : 0;
            }
            Check.due("told(4)", x.told(4), one);
        }
    }

    private static void putTakenCutUndone() {
        Doc.first("marks put in with a kind, taken out, cut anew into parts, undone;");
        NearMarks x = new NearMarks();
        Check.due("put(2)", x.put(2), 0);
        Check.due("its kind", x.mark(0, 0), 2);
        Check.due("take(0)", x.take(0), 0);
        Check.due("cut into 2", x.cut(0x101L), 1);
        Check.due("undo(1), the cut", x.undo(1), 0);
        Check.due("told(1)", x.told(1), 4);
        Check.due("undo(1), the taking", x.undo(1), 1);
        Check.due("its kind again", x.mark(0, 0), 2);
        Check.due("undo(1), the putting", x.undo(1), 0);
        Check.due("undo(1) of no more", x.undo(1), NearMarks.NOT);
    }

    private static void nearLookedAtInVain() {
        Doc.first("which marks are near to one, how many are looked at for it, and for how many in vain;");
        NearMarks x = Make.with(0x1L, 0xFL, 0x0001_0001_0001_0001L, 0xFFFFL);
        Check.due("near(3)", x.near(3), 1L);
        Check.due("near(4)", x.near(4), 7L);
        Check.due("looked at: all but the mark with a bit in each part", x.told(4), 3);
        Check.due("in vain: those with 4 and with 16 bits", x.told(5), 2);
    }

    private static void nearestAndNext() {
        Doc.first("the nearest, those next to it;");
        for (int seed : SEEDS) {
            NearMarks x = drawn(seed);
            x.flip(seed & 63);
            int marks = x.told(0);
            Check.due("told(6)", x.told(6), x.nearest(0));
            Check.due("told(7)", x.told(7), x.mark(x.nearest(0), 2));
            long named = 0L;
            for (int k = 0; k < marks; k++) {
                int mark = x.nearest(k);
                named |= 1L << mark;
                int next = x.nearest(k + 1);
                Check.holds("nearest(" + k + ") is ahead of the next", next == NearMarks.NONE
                    || x.mark(mark, 2) < x.mark(next, 2) || x.mark(mark, 2) == x.mark(next, 2) && mark < next);
            }
            Check.due("each mark once", named, (1L << marks) - 1);
            Check.due("nearest(" + marks + ")", x.nearest(marks), NearMarks.NONE);
        }
    }

    private static void groupsAndTheirMiddle() {
        Doc.first("groups of marks that are near by others, their middle mark bit by bit, how far apart they are;");
        NearMarks x = Make.with(0x0L, -1L, 0x1L, 0x3L);
        Check.due("groups(1)", x.groups(1), 2);
        Check.due("group(1, 0, 0), 0 and 3 by 2", x.group(1, 0, 0), 3);
        Check.due("group(1, 0, 2)", x.group(1, 0, 2), 2);
        Check.due("middle(1, 0)", x.middle(1, 0), 1L);
        Check.due("group(1, 1, 1)", x.group(1, 1, 1), 1);
        Check.due("middle(1, 1)", x.middle(1, 1), -1L);
        for (int seed : SEEDS) {
            NearMarks y = drawn(seed);
            for (int b = 0; b <= 64; b += 8) {
                int all = 0;
                int groups = y.groups(b);
                for (int g = 0; g < groups; g++) {
                    all += y.group(b, g, 0);
                }
                Check.due("marks of all groups within " + b, all, y.told(0));
            }
        }
    }

    private static void cutThatLooksAtFewest() {
        Doc.first("which cut looks at fewest;");
        int[] chosen = new int[3];
        for (int seed = 0; seed < 60; seed++) {
            for (int parts = 1; parts <= 8; parts++) {
                NearMarks x = drawn(seed);
                int[] looks = new int[3];
                for (int way = 0; way < 3; way++) {
                    x.cut(evenCut(parts, way));
                    looks[way] = looksOfAll(x);
                }
                int least = Math.min(looks[0], Math.min(looks[1], looks[2]));
                int which = looks[0] == least ? 0 : looks[1] == least ? 1 : 2;
                Check.due("fewest(" + parts + ", 0) by seed " + seed, x.fewest(parts, 0), least);
                Check.due("fewest(" + parts + ", 1) by seed " + seed, x.fewest(parts, 1), which);
                chosen[which]++;
            }
        }
        Check.holds("each of the three is the best somewhere", chosen[0] > 0 && chosen[1] > 0 && chosen[2] > 0);
    }

    private static long evenCut(int parts, int way) {
        int[] lengths = new int[parts];
        for (int p = 0; p < parts; p++) {
            lengths[p] = 64 / parts;
        }
        int left = 64 % parts;
        for (int i = 0; i < left; i++) {
            int firstOdd = (parts + 1) / 2;
            int alternately = i < firstOdd ? 2 * i : 2 * (i - firstOdd) + 1;
            lengths[way == 0 ? i : way == 1 ? parts - 1 - i : alternately]++;
        }
        long begins = 0L;
        int bit = 0;
        for (int length : lengths) {
            begins |= 1L << bit;
            bit += length;
        }
        return begins;
    }

    private static int looksOfAll(NearMarks x) {
        int marks = x.told(0);
        int looks = 0;
        for (int k = 0; k < marks; k++) {
            x.hold(k);
            looks += x.told(4);
        }
        return looks;
    }

    private static void deadAndTogether() {
        Doc.first("which bits are dead, which go together;");
        NearMarks x = Make.with(0x01L, 0x31L, 0x09L, 0x39L);
        Check.due("told(8): all but bits 3, 4, 5", x.told(8), 61);
        Check.due("told(9): 4 and 5", x.told(9), 64 * 4 + 5);
        NearMarks unlike = Make.with(0x4L, 0x8000_0000_0000_0000L);
        Check.due("told(8), unlike", unlike.told(8), 62);
        Check.due("told(9), unlike", unlike.told(9), 64 * 2 + 63);
    }

    private static void pictureTurnedAndMirrored() {
        Doc.first("the mark that is told by a picture of dots, turned, seen in a glass;");
        NearMarks x = new NearMarks();
        x.type(0, 0b00000111);
        x.type(1, 0b00000001);
        // The corner comes from the left of row 0 to its right: column 7 of rows 0 to 2, column 6 of row 0.
        Check.due("turn()", x.turn(), 0b11000000);
        Check.due("hand() turned", x.hand(), 0x8080C0L);
        Check.due("mirror()", x.mirror(), 0b00000011);
        Check.due("hand() mirrored", x.hand(), 0x010103L);
    }

    private static void unknownMark() {
        Doc.first("what an unknown mark is, by how far it is from others: all that fits, which to ask next;");
        for (int seed : SEEDS) {
            int marks = drawn(seed).told(0);
            for (int unknown = 0; unknown < marks; unknown++) {
                findByAsking(drawn(seed), unknown);
            }
        }
    }

    private static void findByAsking(NearMarks x, int unknown) {
        int fitting = x.told(11);
        int ask = x.told(13);
        for (int asked = 0; asked < 6 && ask != NearMarks.NONE; asked++) {
            x.hold(ask);
            Check.due("see", x.see(x.mark(unknown, 2)), asked + 1);
            Check.holds("fewer fit when asked by " + ask, x.told(11) < fitting);
            fitting = x.told(11);
            ask = x.told(13);
        }
        Check.due("one alone fits in the end", fitting, 1);
        Check.due("the one that fits is meant", x.told(12), unknown);
        Check.due("one that fits alone is not asked for", ask, NearMarks.NONE);
    }

    private static void pairsJudged() {
        Doc.first("books of pairs judged;");
        NearMarks x = Make.with(0x0L, 0x7L, 0x1FL);
        Check.due("write(0, 1, 3)", x.write(0, 1, 3), 1);
        Check.due("write(2, 0, 5)", x.write(2, 0, 5), 2);
        Check.due("told(15), both right", x.told(15), NearMarks.NONE);
        Check.due("write(1, 2, 3)", x.write(1, 2, 3), 3);
        Check.due("told(15), the third is wrong", x.told(15), 2);
        Check.due("tear()", x.tear(), 3);
        Check.due("told(15), no book", x.told(15), NearMarks.NONE);
    }

    private static void timesByDraws() {
        Doc.first("times by draws;");
        NearMarks once = new NearMarks();
        NearMarks twice = new NearMarks();
        Check.due("drift(20) and drift(1) twenty times", once.drift(20), driftSingly(twice));
        Check.holds("come to the same", Make.whole(once).equals(Make.whole(twice)));
    }

    private static int driftSingly(NearMarks x) {
        int marks = 0;
        for (int time = 0; time < 20; time++) {
            marks = x.drift(1);
        }
        return marks;
    }

    private static void imagesToGoOnFrom() {
        Doc.first("images to go on from.");
        NearMarks x = drawn(5);
        x.cut(0x0101L);
        String before = Make.picture(x);
        x.keep(0);
        int marks = x.drift(3);
        String after = Make.picture(x);
        x.take(0);
        x.keep(1);
        x.goBack(0);
        Check.holds("all but what can be undone is as it was", known(Make.picture(x)).equals(known(before)));
        Check.due("the same draws again", x.drift(3), marks);
        Check.holds("come to the same", Make.picture(x).equals(after));
        x.goBack(1);
        Check.due("image 1", x.told(0), marks - 1);
    }

    /** A picture without its 17th number, how many deeds can be undone. */
    private static String known(String picture) {
        String[] numbers = picture.split(" ");
        numbers[16] = "";
        return String.join(" ", numbers);
    }

    private static void fiveHundredAndTwelveCalls() {
        Doc.first("An object is used for at most 512 calls after it has been made; what later calls answer is free.");
        NearMarks x = new NearMarks();
        long hand = 0L;
        for (int call = 1; call <= MOST_CALLS; call++) {
            int bit = call * 7 & 63;
            hand ^= 1L << bit;
            Check.due("call " + call + ", flip(" + bit + ")", x.flip(bit), Long.bitCount(hand));
        }
        NearMarks drifting = new NearMarks();
        for (int call = 1; call < MOST_CALLS; call++) {
            drifting.drift(20);
        }
        Check.due("call 512, how many can be undone", drifting.told(16), 20);
    }
}
