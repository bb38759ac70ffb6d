import java.util.ArrayList;
import java.util.List;

/**
 * Refusals, of several the first as told by each call; they change nothing. Every call with every number around its
 * bounds, in several situations: what is refused must be refused as due and leave all as it was, what is not refused
 * must not be.
 */
public final class RefusalsTest {
    private static final Due due = new Due();
    private static final int NOT_REFUSED = 0;
    private static final String FULL_PAGE = "s--,s--,s--,s--,s--,s--,";
    private static final int[] WORDS = {Due.LEAST, -2, -1, 0, 1, 2, 3, 4, Due.MOST};
    private static final int[] STATES = {Due.LEAST, -2, -1, 0, 1, 2, 3, 5, 6, 7, Due.MOST};
    private static final int[] FEW = {Due.LEAST, -2, -1, 0, 1, 2, 3, 4, 5, 6, 7, 8, 9, Due.MOST};
    private static final int[] ROWS = {Due.LEAST, -1, 0, 1, 2, 128, 255, 256, 4095, 4096, Due.MOST};
    private static final int[] LENGTHS = {Due.LEAST, -1, 0, 1, 7, 8, 9, 11, 12, 13, 31, 32, 33, Due.MOST};
    private static final int[] CODES = {Due.LEAST, -1, 0, 1, 'a', 's', 126, 127, 128, 256, Due.MOST};
    private static final int[] TIMES = {Due.LEAST, -1, 0, 1, 2, 29, 30, 31, Due.MOST};
    private static final int[] SEEDS = {Due.LEAST, -1, 0, 1, Due.MOST};

    public static void main(String[] args) {
        Situation[] situations = {
            new Situation("", "", 0, false, "", "", ""),
            new Situation("", "ab", 0, false, "", "", ""),
            new Situation("", "f-0", 0, false, "", "", ""),
            new Situation("", FULL_PAGE, 0, false, "", "", ""),
            new Situation("f-0", "", 0, false, "", "", ""),
            new Situation("f-0", "aAb", 5, true, "a", "", "AAAAAAAA"),
            new Situation("s01,f1-", "ab", 6, true, "aB", "b", ""),
            new Situation("r--,o11,w02", FULL_PAGE, 6, false, "abcabcab", "CCCCCCCC", "abcabcab"),
            new Situation("s50,f4-,w-3,r22,o11,s00", "aaaaaaaaa", 3, true, "abcdefab", "fedcbafe", "A")};
        for (Situation now : situations) {
            due.sentence(0, "Refusals, of several the first as told by each call; they change nothing");
            for (int call = 0; call < CALLS.length; call++) {
                everyNumber(now, call);
            }
        }
        due.end();
    }

    private static final String[] CALLS = {"letter", "blank", "fault", "machine", "word", "state", "as", "sign", "act",
        "flips", "round", "nothing", "alike", "order", "times", "undo", "section", "aim", "change", "see", "forget",
        "drawn", "image", "restore", "count", "digest"};
    /** The calls that only tell: these change nothing also when they are not refused. */
    private static final List<String> TELLING = List.of("fault", "state", "as", "sign", "act", "flips", "round",
        "nothing", "alike", "order", "drawn", "count", "digest");

    /** What an object is brought to ahead of a call; an image, if it is kept, is of something else than is now. */
    private record Situation(String machine, String page, int seen, boolean image, String... words) {
        int states() {
            return machine.isEmpty() ? 0 : Due.statesOf(machine);
        }

        TreeActs made() {
            TreeActs x = Due.with(machine);
            if (image) {
                Due.put(x, 0, "aa");
                Due.put(x, 1, "A");
                x.see(0, 3, true);
                x.image();
                x.forget();
                x.aim(0, 1, Due.NONE);
            }
            for (int i = 0; i < 3 && !machine.isEmpty(); i++) {
                Due.put(x, i, words[i]);
            }
            for (int i = 0; i < seen; i++) {
                x.see(i % states(), i % 4, i % 3 == 0);
            }
            Due.type(x, page);
            return x;
        }
    }

    private static int[][] numbersOf(int call) {
        switch (CALLS[call]) {
            case "letter": return new int[][] {CODES};
            case "word":
            case "nothing":
            case "order": return new int[][] {WORDS};
            case "state":
            case "as":
            case "change": return new int[][] {STATES, FEW};
            case "sign": return new int[][] {WORDS, FEW};
            case "act":
            case "round": return new int[][] {WORDS, ROWS, LENGTHS};
            case "flips": return new int[][] {WORDS, FEW};
            case "alike":
            case "undo": return new int[][] {WORDS, WORDS};
            case "times": return new int[][] {WORDS, WORDS, WORDS};
            case "section": return new int[][] {WORDS, FEW, WORDS};
            case "aim": return new int[][] {STATES, FEW, STATES};
            case "see": return new int[][] {STATES, FEW, {0, 1}};
            case "drawn": return new int[][] {TIMES, SEEDS, FEW};
            case "count": return new int[][] {FEW};
            default: return new int[][] {};
        }
    }

    private static void everyNumber(Situation now, int call) {
        int[][] numbers = numbersOf(call);
        List<int[]> all = new ArrayList<>();
        all.add(new int[3]);
        for (int place = 0; place < numbers.length; place++) {
            List<int[]> longer = new ArrayList<>();
            for (int[] some : all) {
                for (int number : numbers[place]) {
                    int[] more = some.clone();
                    more[place] = number;
                    longer.add(more);
                }
            }
            all = longer;
        }
        List<int[]> changingNothing = new ArrayList<>();
        for (int[] n : all) {
            if (refusalDue(now, CALLS[call], n[0], n[1], n[2]) != NOT_REFUSED || TELLING.contains(CALLS[call])) {
                changingNothing.add(n);
            } else {
                check(now, now.made(), CALLS[call], n);
            }
        }
        manyOnOneObject(now, CALLS[call], changingNothing);
    }

    /** An object is good for 512 calls: some to make it, some to look at it, and 150 between. */
    private static void manyOnOneObject(Situation now, String call, List<int[]> all) {
        List<Long> before = picture(now.made());
        for (int from = 0; from < all.size(); from += 150) {
            TreeActs x = now.made();
            for (int i = from; i < all.size() && i < from + 150; i++) {
                check(now, x, call, all.get(i));
            }
            due.holds(call + "() changes nothing, " + now.machine + " " + now.page, picture(x).equals(before));
        }
    }

    private static void check(Situation now, TreeActs x, String call, int[] n) {
        long want = refusalDue(now, call, n[0], n[1], n[2]);
        long got = made(x, call, n[0], n[1], n[2]);
        String told = call + "(" + n[0] + ", " + n[1] + ", " + n[2] + ") with " + now.machine + " and " + now.page;
        if (want != NOT_REFUSED) {
            due.is(told, got, want);
        } else if (!call.equals("digest")) {
            due.holds(told + " is not refused, but answered " + got, got >= Due.NONE);
        }
    }

    /** All that can be told of an object, and what it is brought back to. */
    private static List<Long> picture(TreeActs x) {
        List<Long> all = new ArrayList<>();
        all.add(x.digest());
        all.add((long) x.fault());
        for (int word = 0; word < 3; word++) {
            addWord(all, x, word);
            all.add((long) x.flips(word, 4));
            all.add((long) x.order(word));
            all.add((long) x.act(word, 1234, 12));
        }
        all.add((long) x.restore());
        all.add(x.digest());
        for (int word = 0; word < 3; word++) {
            addWord(all, x, word);
        }
        all.add((long) x.machine());
        all.add((long) x.blank());
        all.add(x.digest());
        return all;
    }

    private static void addWord(List<Long> all, TreeActs x, int word) {
        for (char letter : Due.textOf(x, word).toCharArray()) {
            all.add((long) letter);
        }
        all.add(-1L);
    }

    private static long made(TreeActs x, String call, int a, int b, int c) {
        switch (call) {
            case "letter": return x.letter(a);
            case "blank": return x.blank();
            case "fault": return x.fault();
            case "machine": return x.machine();
            case "word": return x.word(a);
            case "state": return x.state(a, b);
            case "as": return x.as(a, b);
            case "sign": return x.sign(a, b);
            case "act": return x.act(a, b, c);
            case "flips": return x.flips(a, b);
            case "round": return x.round(a, b, c);
            case "nothing": return x.nothing(a);
            case "alike": return x.alike(a, b);
            case "order": return x.order(a);
            case "times": return x.times(a, b, c);
            case "undo": return x.undo(a, b);
            case "section": return x.section(a, b, c);
            case "aim": return x.aim(a, b, c);
            case "change": return x.change(a, b);
            case "see": return x.see(a, b, c == 1);
            case "forget": return x.forget();
            case "drawn": return x.drawn(a, b, c);
            case "image": return x.image();
            case "restore": return x.restore();
            case "count": return x.count(a);
            default: return x.digest();
        }
    }

    // ---- the refusals, as the document tells them

    private static int refusalDue(Situation now, String call, int a, int b, int c) {
        switch (call) {
            case "letter":
                return a < 1 || a > 126 ? Due.OUTSIDE : now.page.length() == 24 ? Due.FULL : NOT_REFUSED;
            case "machine":
                return isMachine(now.page) ? NOT_REFUSED : Due.STATE;
            case "word":
                return noWord(now, a) ? Due.UNKNOWN : isWord(now, now.page) ? NOT_REFUSED : Due.STATE;
            case "state":
                return noState(now, a) ? Due.UNKNOWN : outside(b, 0, 7);
            case "as":
            case "change":
                return noState(now, a) ? Due.UNKNOWN : outside(b, 0, 4);
            case "sign":
                return a < 0 || a > 2 || b < 0 || b >= now.words[a].length() ? Due.UNKNOWN : NOT_REFUSED;
            case "act":
                return noWord(now, a) ? Due.UNKNOWN : outsideRow(b, c, 12);
            case "flips":
                return noWord(now, a) ? Due.UNKNOWN : outside(b, 0, 4);
            case "round":
                return noWord(now, a) ? Due.UNKNOWN : outsideRow(b, c, 8);
            case "nothing":
            case "order":
                return noWord(now, a) ? Due.UNKNOWN : NOT_REFUSED;
            case "alike":
            case "undo":
                return noWord(now, a) || noWord(now, b) ? Due.UNKNOWN : NOT_REFUSED;
            case "times":
                // words of eight letters at most: two of them are never above 16
                return noWord(now, a) || noWord(now, b) || noWord(now, c) ? Due.UNKNOWN : NOT_REFUSED;
            case "section":
                return noWord(now, a) || noWord(now, c) ? Due.UNKNOWN : outside(b, 0, 1);
            case "aim":
                return noState(now, a) || c != Due.NONE && noState(now, c) ? Due.UNKNOWN : outside(b, 0, 1);
            case "see":
                return noState(now, a) ? Due.UNKNOWN : b < 0 || b > 3 ? Due.OUTSIDE
                    : now.seen == 6 ? Due.FULL : NOT_REFUSED;
            case "drawn":
                return a < 1 || a > 30 || b < 0 || c < 0 || c > 2 ? Due.OUTSIDE
                    : now.states() == 0 ? Due.STATE : NOT_REFUSED;
            case "image":
                return now.states() == 0 ? Due.STATE : NOT_REFUSED;
            case "restore":
                return now.image ? NOT_REFUSED : Due.STATE;
            case "count":
                return outside(a, 0, 6);
            default:
                return NOT_REFUSED;
        }
    }

    private static boolean noWord(Situation now, int word) {
        return word < 0 || word > 2 || now.states() == 0;
    }

    private static boolean noState(Situation now, int state) {
        return state < 0 || state >= now.states();
    }

    private static int outside(int number, int least, int most) {
        return number < least || number > most ? Due.OUTSIDE : NOT_REFUSED;
    }

    private static int outsideRow(int row, int length, int most) {
        if (length < 0 || length > most) {
            return Due.OUTSIDE;
        }
        return outside(row, 0, (1 << length) - 1);
    }

    private static boolean isMachine(String page) {
        return page.matches("[sfwro][-0][-0]");
    }

    private static boolean isWord(Situation now, String page) {
        String last = "" + (char) ('a' + now.states() - 1);
        return page.matches("[a-" + last + "A-" + last.toUpperCase() + "]{0,8}");
    }
}
