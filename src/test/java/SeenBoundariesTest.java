import java.math.BigInteger;

/** The boundary cases that the document names for what is seen and what is drawn: promises 7 (SORTS, ASK), 21 to 23. */
public final class SeenBoundariesTest {
    private static final Due due = new Due();
    private static final int[] NO_STATES_OF_THREE = {Due.LEAST, -2, -1, 3, 4, 5, 6, 256, Due.MOST};
    private static final int[] NO_QUESTIONS = {Due.LEAST, -2, -1, 4, 5, 256, Due.MOST};
    private static final String SIX_STILL = "r--,r--,r--,r--,r--,r--";
    /** The kinds of which the answer is yes, as the document tells them. */
    private static final int[][] YES = {{1, 2, 4}, {0, 1, 2}, {2}, {3, 4}};

    public static void main(String[] args) {
        sixAtMost();
        sixOfAllStatesTogether();
        theSameTwiceCountsTwice();
        seeOfWrongNumbers();
        refusedSeeChangesNothing();
        sortsOfWhatIsSeen();
        sortsOfNoneThatItCanBe();
        sortsOfEachStateAlone();
        askOfLikeOnesTheLeast();
        askNoneIfThereAreNone();
        forgetNothingAndAll();
        drawnTimes();
        drawnSeeds();
        drawnWhat();
        drawnWithoutAMachine();
        drawsWrapAround();
        drawsOfHowManyThereAre();
        drawnNotReducedAhead();
        drawnChangesNothing();
        due.end();
    }

    // ---- promise 21

    private static void sixAtMost() {
        due.sentence(21, "SEEN (6 at most) .. how much is .. FULL");
        TreeActs x = Due.with("s--");
        due.is("count(4)", x.count(4), 0);
        for (int i = 1; i <= 6; i++) {
            due.is("see() number " + i, x.see(0, i % 4, i % 2 == 0), i);
            due.is("count(4)", x.count(4), i);
        }
        due.is("see() number 7", x.see(0, 0, true), Due.FULL);
        due.is("see() number 7", x.see(0, 3, false), Due.FULL);
        due.is("count(4)", x.count(4), 6);
        x.forget();
        due.is("see() then", x.see(0, 0, true), 1);
    }

    private static void sixOfAllStatesTogether() {
        due.sentence(21, "SEEN (6 at most): of all STATES together");
        TreeActs x = Due.with(SIX_STILL);
        for (int state = 0; state < 6; state++) {
            due.is("see() of STATE " + state, x.see(state, 0, true), state + 1);
        }
        for (int state = 0; state < 6; state++) {
            due.is("see() of STATE " + state + " when it is full", x.see(state, 1, true), Due.FULL);
            due.is("SORTS", x.state(state, 6), 2 + 4 + 16);
        }
    }

    private static void theSameTwiceCountsTwice() {
        due.sentence(21, "It is SEEN: how much is");
        TreeActs x = Due.with("s--");
        for (int i = 1; i <= 6; i++) {
            due.is("the same, number " + i, x.see(0, 2, true), i);
            due.is("SORTS", x.state(0, 6), 4);
        }
        due.is("the same, number 7", x.see(0, 2, true), Due.FULL);
        due.is("forget()", x.forget(), 6);
    }

    private static void seeOfWrongNumbers() {
        due.sentence(21, "UNKNOWN: state; OUTSIDE: what (0 to 3); FULL: the first as told");
        TreeActs x = Due.with("s--,s--,s--");
        for (int seen = 0; seen <= 6; seen += 6) {
            for (int state : NO_STATES_OF_THREE) {
                due.is("see(" + state + ", 0, true)", x.see(state, 0, true), Due.UNKNOWN);
                due.is("see(" + state + ", 4, false)", x.see(state, 4, false), Due.UNKNOWN);
            }
            for (int what : NO_QUESTIONS) {
                due.is("see(0, " + what + ", true)", x.see(0, what, true), Due.OUTSIDE);
                due.is("see(2, " + what + ", false)", x.see(2, what, false), Due.OUTSIDE);
            }
            due.is("count(4)", x.count(4), seen);
            for (int i = 0; i < 6; i++) {
                x.see(2, 3, false);
            }
        }
        due.is("see(2, 3, false)", x.see(2, 3, false), Due.FULL);
        due.is("see(0, 0, true) without a MACHINE", new TreeActs().see(0, 0, true), Due.UNKNOWN);
        due.is("see(0, 4, true) without a MACHINE", new TreeActs().see(0, 4, true), Due.UNKNOWN);
    }

    private static void refusedSeeChangesNothing() {
        due.sentence(21, "FULL .. they change nothing");
        TreeActs x = Due.with("s--,f01");
        for (int i = 0; i < 6; i++) {
            x.see(1, 0, true);
        }
        long before = x.digest();
        x.see(0, 0, false);
        x.see(1, 3, true);
        x.see(2, 0, true);
        x.see(0, 4, true);
        due.is("digest()", x.digest(), before);
        due.is("SORTS", x.state(1, 6), 22);
        due.is("SORTS of the other one", x.state(0, 6), 31);
    }

    // ---- promise 7: SORTS, ASK

    private static boolean isYes(int what, int kind) {
        for (int one : YES[what]) {
            if (one == kind) {
                return true;
            }
        }
        return false;
    }

    /** Every way to have seen each of the four so, not so, or not at all. */
    private static void sortsOfWhatIsSeen() {
        due.sentence(7, "SORTS (KINDS 0 to 4) it can be of, so that all that is SEEN of it is so: as bits; ASK");
        for (int way = 0; way < 81; way++) {
            TreeActs x = Due.with("s--,o--");
            int sorts = 31;
            int rest = way;
            for (int what = 0; what < 4; what++) {
                int answer = rest % 3;
                rest /= 3;
                if (answer == 2) {
                    continue;
                }
                x.see(1, what, answer == 1);
                for (int kind = 0; kind < 5; kind++) {
                    if (isYes(what, kind) != (answer == 1)) {
                        sorts &= ~(1 << kind);
                    }
                }
            }
            due.is("SORTS, way " + way, x.state(1, 6), sorts);
            due.is("ASK, way " + way, x.state(1, 7), dueAsk(sorts));
            due.is("SORTS of the other one", x.state(0, 6), 31);
        }
    }

    private static int dueAsk(int sorts) {
        int best = Due.NONE;
        int fewest = 6;
        for (int what = 0; what < 4 && sorts != 0; what++) {
            int yes = 0;
            int no = 0;
            for (int kind = 0; kind < 5; kind++) {
                if ((sorts >> kind & 1) == 1 && isYes(what, kind)) {
                    yes++;
                } else if ((sorts >> kind & 1) == 1) {
                    no++;
                }
            }
            if (Math.max(yes, no) < fewest) {
                fewest = Math.max(yes, no);
                best = what;
            }
        }
        return best;
    }

    private static void sortsOfNoneThatItCanBe() {
        due.sentence(7, "so that all that is SEEN of it is so: none");
        TreeActs x = Due.with("f--");
        x.see(0, 2, true);
        due.is("SORTS", x.state(0, 6), 4);
        x.see(0, 2, false);
        due.is("SORTS of what is so and not so", x.state(0, 6), 0);
        due.is("ASK", x.state(0, 7), Due.NONE);
        x.see(0, 0, true);
        due.is("SORTS stay none", x.state(0, 6), 0);
        due.is("KIND is what it was", x.state(0, 0), 1);
        x.forget();
        due.is("SORTS then", x.state(0, 6), 31);
        due.is("ASK then", x.state(0, 7), 0);
    }

    private static void sortsOfEachStateAlone() {
        due.sentence(7, "all that is SEEN of it");
        TreeActs x = Due.with(SIX_STILL);
        x.see(5, 3, true);
        x.see(0, 2, true);
        int[] sorts = {4, 31, 31, 31, 31, 24};
        for (int state = 0; state < 6; state++) {
            due.is("SORTS of " + state, x.state(state, 6), sorts[state]);
        }
        x.change(0, 4);
        due.is("SORTS do not go by its KIND", x.state(0, 6), 4);
    }

    private static void askOfLikeOnesTheLeast() {
        due.sentence(7, "so that fewest of these are left at worst: of like ones the least");
        TreeActs x = Due.with("s--");
        due.is("all five: 0 leaves 3, 1 leaves 3, 3 leaves 3", x.state(0, 7), 0);
        x.see(0, 0, true);
        due.is("FLIP, TWIST, ONCE: 1, 2, 3 leave 2", x.state(0, 7), 1);
        x.see(0, 1, true);
        due.is("FLIP, TWIST: 2 alone parts them", x.state(0, 7), 2);
        x.see(0, 2, false);
        due.is("FLIP alone: all leave 1", x.state(0, 7), 0);
        TreeActs y = Due.with("s--");
        y.see(0, 0, false);
        due.is("STATE, STILL: 1 and 3 part them", y.state(0, 7), 1);
    }

    private static void askNoneIfThereAreNone() {
        due.sentence(7, "ASK: none, if there are none");
        TreeActs x = Due.with("s--,s--");
        x.see(1, 1, true);
        x.see(1, 3, true);
        due.is("SORTS", x.state(1, 6), 0);
        due.is("ASK", x.state(1, 7), Due.NONE);
        due.is("ASK of the other one", x.state(0, 7), 0);
    }

    // ---- promise 22

    private static void forgetNothingAndAll() {
        due.sentence(22, "Nothing is SEEN any more: how much was");
        due.is("forget() without a MACHINE", new TreeActs().forget(), 0);
        for (int seen = 0; seen <= 6; seen++) {
            TreeActs x = Due.with(SIX_STILL, "ab");
            long before = x.digest();
            for (int i = 0; i < seen; i++) {
                x.see(i, i % 4, true);
            }
            due.is("forget() of " + seen, x.forget(), seen);
            due.is("forget() again", x.forget(), 0);
            due.is("count(4)", x.count(4), 0);
            due.is("all is as it was", x.digest(), before);
            due.is("see() then", x.see(5, 0, true), 1);
        }
        TreeActs x = Due.with("s--");
        for (int i = 0; i < 7; i++) {
            x.see(0, 0, true);
        }
        due.is("forget() when one was refused", x.forget(), 6);
    }

    // ---- promise 23

    private static BigInteger nextSeed(BigInteger seed) {
        return seed.multiply(BigInteger.valueOf(1103515245)).add(BigInteger.valueOf(12345))
            .mod(BigInteger.ONE.shiftLeft(31));
    }

    private static int drawOf(BigInteger seed, int of) {
        return seed.divide(BigInteger.valueOf(65536)).mod(BigInteger.valueOf(of)).intValue();
    }

    private static int turned(int row) {
        return Integer.reverse(row) >>> 24;
    }

    /**
     * What is due of a machine whose state 0 adds one to a row of eight signs (the first the lowest), all others of
     * which do nothing: the sum, how many stay, the seed.
     */
    private static long[] dueDrawn(int states, int times, int first) {
        BigInteger seed = BigInteger.valueOf(first);
        long sum = 0;
        long staying = 0;
        for (int i = 0; i < times; i++) {
            int more = 0;
            for (int letter = 0; letter < 4; letter++) {
                seed = nextSeed(seed);
                boolean adds = drawOf(seed, states) == 0;
                seed = nextSeed(seed);
                int sign = drawOf(seed, 2) == 1 ? -1 : 1;
                more += adds ? sign : 0;
            }
            seed = nextSeed(seed);
            int row = drawOf(seed, 256);
            int after = turned(turned(row) + more & 255);
            sum += after;
            staying += after == row ? 1 : 0;
        }
        return new long[] {sum, staying, seed.longValueExact()};
    }

    private static void dueDrawnOf(TreeActs x, int states, int times, int seed) {
        long[] want = dueDrawn(states, times, seed);
        for (int what = 0; what < 3; what++) {
            due.is("drawn(" + times + ", " + seed + ", " + what + ")", x.drawn(times, seed, what), want[what]);
        }
    }

    private static void drawnTimes() {
        due.sentence(23, "OUTSIDE: times (1 to 30)");
        TreeActs x = Due.with("f-0,r--");
        for (int times = 1; times <= 30; times++) {
            dueDrawnOf(x, 2, times, 4711);
        }
        for (int times : new int[] {Due.LEAST, -30, -1, 0, 31, 32, 256, Due.MOST}) {
            for (int what = 0; what < 3; what++) {
                due.is("drawn(" + times + ", 4711, " + what + ")", x.drawn(times, 4711, what), Due.OUTSIDE);
            }
        }
    }

    private static void drawnSeeds() {
        due.sentence(23, "OUTSIDE: seed (0 at least)");
        TreeActs x = Due.with("f-0,r--");
        int[] seeds = {0, 1, 2, 65535, 65536, 65537, 1103515245, 2147418111, 2147418112, Due.MOST - 1, Due.MOST};
        for (int seed : seeds) {
            dueDrawnOf(x, 2, 1, seed);
            dueDrawnOf(x, 2, 30, seed);
        }
        for (int seed : new int[] {Due.LEAST, Due.LEAST + 1, -65536, -2, -1}) {
            due.is("drawn(1, " + seed + ", 0)", x.drawn(1, seed, 0), Due.OUTSIDE);
            due.is("drawn(30, " + seed + ", 2)", x.drawn(30, seed, 2), Due.OUTSIDE);
        }
    }

    private static void drawnWhat() {
        due.sentence(23, "OUTSIDE: .. what");
        TreeActs x = Due.with("f-0");
        for (int what : new int[] {Due.LEAST, -2, -1, 3, 4, 256, Due.MOST}) {
            due.is("drawn(1, 0, " + what + ")", x.drawn(1, 0, what), Due.OUTSIDE);
            due.is("drawn(30, 7, " + what + ")", x.drawn(30, 7, what), Due.OUTSIDE);
        }
        dueDrawnOf(x, 1, 30, 7);
    }

    private static void drawnWithoutAMachine() {
        due.sentence(23, "STATE: no MACHINE, behind OUTSIDE");
        TreeActs x = new TreeActs();
        due.is("drawn(1, 0, 0)", x.drawn(1, 0, 0), Due.STATE);
        due.is("drawn(30, 5, 2)", x.drawn(30, 5, 2), Due.STATE);
        due.is("drawn(0, 0, 0)", x.drawn(0, 0, 0), Due.OUTSIDE);
        due.is("drawn(31, 0, 0)", x.drawn(31, 0, 0), Due.OUTSIDE);
        due.is("drawn(1, -1, 0)", x.drawn(1, -1, 0), Due.OUTSIDE);
        due.is("drawn(1, 0, 3)", x.drawn(1, 0, 3), Due.OUTSIDE);
        due.is("drawn(1, 0, -1)", x.drawn(1, 0, -1), Due.OUTSIDE);
    }

    private static void drawsWrapAround() {
        due.sentence(23, "1103515245 times it and 12345, its rest by 2 to the 31; then that by 65536 (rounded down), "
            + "its rest");
        TreeActs x = Due.with("f-0");
        BigInteger seed = BigInteger.valueOf(Due.MOST);
        for (int i = 0; i < 40; i++) {
            dueDrawnOf(x, 1, 1, seed.intValueExact());
            due.holds("a SEED is 0 at least", x.drawn(1, seed.intValueExact(), 2) >= 0);
            seed = nextSeed(seed);
        }
        // nine draws make one WORD and its ROW: that of two is that of one, twice
        int after = x.drawn(1, 99, 2);
        due.is("two at once", x.drawn(2, 99, 2), x.drawn(1, after, 2));
        due.is("the sum of two at once", x.drawn(2, 99, 0), x.drawn(1, 99, 0) + x.drawn(1, after, 0));
    }

    private static void drawsOfHowManyThereAre() {
        due.sentence(23, "each a STATE by a DRAW of how many there are, its INVERSE by a DRAW of 2 that is 1");
        for (int states = 1; states <= 6; states++) {
            TreeActs x = Due.with("f-0,r--,r--,r--,r--,r--".substring(0, 4 * states - 1));
            for (int seed = 0; seed < 8; seed++) {
                dueDrawnOf(x, states, 30, 1000003 * seed);
            }
        }
    }

    private static void drawnNotReducedAhead() {
        due.sentence(23, "the sum of all that come out; how many stay as they are");
        TreeActs still = Due.with("r--");
        TreeActs once = Due.with("o--");
        TreeActs counter = Due.with("f-0");
        for (int seed = 0; seed < 20; seed++) {
            due.is("all stay: a STILL", still.drawn(30, seed, 1), 30);
            due.is("all stay: four times a ONCE", once.drawn(30, seed, 1), 30);
            due.is("the sum is that of the ROWS", once.drawn(30, seed, 0), still.drawn(30, seed, 0));
            due.is("as many DRAWS", once.drawn(30, seed, 2), counter.drawn(30, seed, 2));
        }
    }

    private static void drawnChangesNothing() {
        due.sentence(23, "as they would be");
        TreeActs x = Due.with("s01,f10", "ab", "B", "aa");
        x.see(0, 0, true);
        x.image();
        long before = x.digest();
        int first = x.drawn(30, 5, 0);
        due.is("drawn() again", x.drawn(30, 5, 0), first);
        x.drawn(30, 6, 1);
        x.drawn(1, 7, 2);
        due.is("digest()", x.digest(), before);
    }
}
