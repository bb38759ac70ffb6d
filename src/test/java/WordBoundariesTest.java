import java.util.ArrayList;
import java.util.LinkedHashSet;
import java.util.List;

/** The boundary cases that the document names for what words do and what is done to them: promises 9 to 18. */
public final class WordBoundariesTest {
    private static final Due due = new Due();
    private static final int[] NO_WORDS = {Due.LEAST, -2, -1, 3, 4, 256, Due.MOST};
    private static final int[] NO_SIGNS = {Due.LEAST, -2, -1, 2, 3, 256, Due.MOST};
    private static final String SIX = "s50,f4-,w-3,r22,o11,s00";

    public static void main(String[] args) {
        signPlaces();
        signWords();
        signCodes();
        actLengths();
        actRows();
        actOnARowWithoutASign();
        actSignZeroIsTheHighest();
        actWrapsAround();
        actNoneTheyStay();
        actOfUnknown();
        flipsLengths();
        flipsRowBits();
        flipsOfUnknown();
        roundLengths();
        roundRows();
        roundOfRowsThatStay();
        roundOfUnknown();
        nothingOfAnEmptyWord();
        nothingFortyOfThem();
        nothingEachButOnce();
        nothingInOrderAsTheyCome();
        nothingOfUnknown();
        alikeEmptyWords();
        alikeIsReduced();
        alikeOrderOfLetters();
        alikeNotTold();
        alikeOfUnknown();
        orderOneToEight();
        orderNotTold();
        orderOfSixteenLetters();
        orderOfUnknown();
        timesSixteenLetters();
        timesFullByWhatIsLeft();
        timesOntoItself();
        timesOfUnknown();
        undoEdges();
        undoOfUnknown();
        sectionEdges();
        sectionNoneAreLeftOut();
        sectionIsReduced();
        sectionOfWrongNumbers();
        due.end();
    }

    // ---- promise 9

    private static void signPlaces() {
        due.sentence(9, "UNKNOWN: .. place");
        TreeActs x = Due.with("s01,f10", "aBab", "b");
        Due.putLong(x, 2, 1, "aBBAbbAbaBBAbbAb");
        put(x, 1, "b");
        int[] sizes = {4, 1, 16};
        for (int word = 0; word < 3; word++) {
            due.is("the first LETTER", x.sign(word, 0) >= 'A' ? 1 : 0, 1);
            due.is("the last LETTER", x.sign(word, sizes[word] - 1), 'b');
            due.is("one behind it", x.sign(word, sizes[word]), Due.UNKNOWN);
            due.is("place 16", x.sign(word, 16), Due.UNKNOWN);
            due.is("place 17", x.sign(word, 17), Due.UNKNOWN);
            due.is("place -1", x.sign(word, -1), Due.UNKNOWN);
            due.is("the least place", x.sign(word, Due.LEAST), Due.UNKNOWN);
            due.is("the largest place", x.sign(word, Due.MOST), Due.UNKNOWN);
        }
        // letters that were there once are there no more
        put(x, 2, "a");
        due.is("place 1 of a shorter WORD", x.sign(2, 1), Due.UNKNOWN);
        put(x, 2, "");
        due.is("place 0 of an empty WORD", x.sign(2, 0), Due.UNKNOWN);
    }

    private static int put(TreeActs x, int word, String text) {
        return Due.put(x, word, text);
    }

    private static void signWords() {
        due.sentence(9, "UNKNOWN: word (0 to 2)");
        TreeActs x = Due.with("s01,f10", "a", "b", "A");
        due.is("word 0", x.sign(0, 0), 'a');
        due.is("word 1", x.sign(1, 0), 'b');
        due.is("word 2", x.sign(2, 0), 'A');
        for (int word : NO_WORDS) {
            due.is("sign(" + word + ", 0)", x.sign(word, 0), Due.UNKNOWN);
            due.is("sign(" + word + ", -1)", x.sign(word, -1), Due.UNKNOWN);
        }
        due.is("sign(0, 0) without a MACHINE", new TreeActs().sign(0, 0), Due.UNKNOWN);
    }

    private static void signCodes() {
        due.sentence(9, "A LETTER of a WORD (its code): \"a\" for 0, .. \"f\" for 5, \"A\", .. \"F\"");
        for (char letter : "abcdefABCDEF".toCharArray()) {
            TreeActs x = Due.with(SIX, "" + letter);
            due.is("sign(0, 0)", x.sign(0, 0), letter);
            x.undo(0, 1);
            due.is("of its INVERSE", x.sign(1, 0), letter ^ 32);
        }
    }

    // ---- promise 10

    private static void actLengths() {
        due.sentence(10, "OUTSIDE: length (0 to 12)");
        TreeActs x = Due.with("o--", "a");
        for (int length = 0; length <= 12; length++) {
            due.is("act(0, 0, " + length + ")", x.act(0, 0, length), length == 0 ? 0 : 1 << (length - 1));
        }
        int[] outside = {Due.LEAST, -32, -2, -1, 13, 14, 31, 32, 33, 44, 64, 256, Due.MOST};
        for (int length : outside) {
            due.is("act(0, 0, " + length + ")", x.act(0, 0, length), Due.OUTSIDE);
            due.is("act(0, 1, " + length + ")", x.act(0, 1, length), Due.OUTSIDE);
            due.is("act(2, 0, " + length + ") of an empty WORD", x.act(2, 0, length), Due.OUTSIDE);
        }
    }

    private static void actRows() {
        due.sentence(10, "row (0 to 2 to the length, less 1)");
        for (int length = 0; length <= 12; length++) {
            TreeActs x = Due.with("f00", "a");
            int last = (1 << length) - 1;
            due.is("row 0", x.act(0, 0, length), last);
            due.is("the last row", x.act(0, last, length), 0);
            due.is("one behind it", x.act(0, last + 1, length), Due.OUTSIDE);
            due.is("twice as many", x.act(0, 2 * last + 2, length), Due.OUTSIDE);
            due.is("row -1", x.act(0, -1, length), Due.OUTSIDE);
            due.is("the least row", x.act(0, Due.LEAST, length), Due.OUTSIDE);
            due.is("the largest row", x.act(0, Due.MOST, length), Due.OUTSIDE);
            due.is("one behind it, an empty WORD", x.act(1, last + 1, length), Due.OUTSIDE);
            due.is("the last row, an empty WORD", x.act(1, last, length), last);
        }
    }

    private static void actOnARowWithoutASign() {
        due.sentence(10, "A STATE acts on a ROW (if that has a SIGN)");
        for (char letter : "abcdefABCDEF".toCharArray()) {
            due.is("act(0, 0, 0) of " + letter, Due.with(SIX, "" + letter).act(0, 0, 0), 0);
        }
        due.is("act(0, 0, 0) of a WORD", Due.with(SIX, "abcdEFEb").act(0, 0, 0), 0);
    }

    private static void actSignZeroIsTheHighest() {
        due.sentence(10, "a number of so many bits, SIGN 0 the highest one");
        // each flips one SIGN alone: a SIGN 0, b SIGN 1, .. f SIGN 5
        TreeActs x = Due.with("o--,s00,s11,s22,s33,s44");
        for (int state = 0; state < 6; state++) {
            put(x, 0, "" + (char) ('a' + state));
            for (int length = 0; length <= 12; length += 3) {
                int want = state < length ? 1 << (length - 1 - state) : 0;
                due.is("state " + state + ", length " + length, x.act(0, 0, length), want);
            }
        }
    }

    private static void actWrapsAround() {
        due.sentence(10, "What becomes of a ROW by a WORD: all ones become all zeros, and back");
        TreeActs x = Due.with(Due.ODOMETER, "a", "A");
        for (int length = 0; length <= 12; length++) {
            int last = (1 << length) - 1;
            due.is("one more than all ones", x.act(0, last, length), 0);
            due.is("one less than all zeros", x.act(1, 0, length), last);
            due.is("one more than all zeros", x.act(0, 0, length), length == 0 ? 0 : 1 << (length - 1));
        }
        // sixteen times one more
        Due.putLong(x, 2, 1, "aaaaaaaaaaaaaaaa");
        due.is("sixteen more, four SIGNS", x.act(2, 0b1011, 4), 0b1011);
        due.is("sixteen more, five SIGNS", x.act(2, 0b10110, 5), 0b10111);
        due.is("sixteen more, twelve SIGNS", x.act(2, 4095, 12), 0b111100000000);
    }

    private static void actNoneTheyStay() {
        due.sentence(10, "then its NEXT acts on the others (none: they stay)");
        for (int row = 0; row < 8; row++) {
            due.is("STATE", Due.with("s--", "a").act(0, row, 3), row);
            due.is("FLIP", Due.with("f--", "a").act(0, row, 3), row ^ 4);
            due.is("TWIST", Due.with("w--", "a").act(0, row, 3), row ^ 4);
            due.is("STILL", Due.with("r00", "a").act(0, row, 3), row);
            due.is("STILL, an INVERSE", Due.with("r11,o--", "A").act(0, row, 3), row);
            due.is("ONCE", Due.with("o00", "a").act(0, row, 3), row ^ 4);
            due.is("ONCE, an INVERSE", Due.with("o11,f11", "A").act(0, row, 3), row ^ 4);
            due.is("FLIP, none for 0", Due.with("f-0", "a").act(0, row, 3), new int[] {4, 5, 6, 7, 2, 3, 1, 0}[row]);
            due.is("TWIST, none for 0", Due.with("w-0", "a").act(0, row, 3), new int[] {7, 6, 4, 5, 0, 1, 2, 3}[row]);
        }
    }

    private static void actOfUnknown() {
        due.sentence(10, "UNKNOWN: word (0 to 2), or there is no MACHINE");
        TreeActs x = Due.with(Due.ODOMETER);
        for (int word : NO_WORDS) {
            due.is("act(" + word + ", 0, 0)", x.act(word, 0, 0), Due.UNKNOWN);
            due.is("act(" + word + ", 0, 13)", x.act(word, 0, 13), Due.UNKNOWN);
            due.is("act(" + word + ", -1, 3)", x.act(word, -1, 3), Due.UNKNOWN);
        }
        due.is("act(0, 0, 0) without a MACHINE", new TreeActs().act(0, 0, 0), Due.UNKNOWN);
        due.is("act(0, 9, 99) without a MACHINE", new TreeActs().act(0, 9, 99), Due.UNKNOWN);
    }

    // ---- promise 11

    private static void flipsLengths() {
        due.sentence(11, "OUTSIDE: length (0 to 4)");
        TreeActs x = Due.with("f00", "a");
        int[] all = {1, 3, 15, 255, 65535};
        for (int length = 0; length <= 4; length++) {
            due.is("flips(0, " + length + ")", x.flips(0, length), all[length]);
            due.is("flips(1, " + length + ") of an empty WORD", x.flips(1, length), 0);
        }
        for (int length : new int[] {Due.LEAST, -2, -1, 5, 6, 12, 32, 256, Due.MOST}) {
            due.is("flips(0, " + length + ")", x.flips(0, length), Due.OUTSIDE);
        }
    }

    /** For each row of four signs a chain of states that flips behind that row alone. */
    private static void flipsRowBits() {
        due.sentence(11, "as bits (ROW 0 the lowest one)");
        for (int row = 0; row < 16; row++) {
            StringBuilder machine = new StringBuilder();
            for (int place = 0; place < 4; place++) {
                boolean one = (row >> (3 - place) & 1) == 1;
                machine.append('s').append(one ? "-" + (place + 1) : (place + 1) + "-").append(',');
            }
            TreeActs x = Due.with(machine + "o--", "a", "A");
            due.is("row " + row, x.flips(0, 4), 1 << row);
            due.is("row " + row + ", the INVERSE", x.flips(1, 4), 1 << row);
            for (int length = 0; length < 4; length++) {
                due.is("shorter rows", x.flips(0, length), 0);
            }
        }
        // the ROWS are those that come, not those that come out
        TreeActs x = Due.with(Due.ODOMETER, "a", "A");
        for (int length = 1; length <= 4; length++) {
            due.is("a carries behind all ones", x.flips(0, length), 1 << ((1 << length) - 1));
            due.is("A carries behind all zeros", x.flips(1, length), 1);
        }
    }

    private static void flipsOfUnknown() {
        due.sentence(11, "UNKNOWN: as for act()");
        TreeActs x = Due.with(Due.ODOMETER);
        for (int word : NO_WORDS) {
            due.is("flips(" + word + ", 0)", x.flips(word, 0), Due.UNKNOWN);
            due.is("flips(" + word + ", 5)", x.flips(word, 5), Due.UNKNOWN);
        }
        due.is("flips(0, 0) without a MACHINE", new TreeActs().flips(0, 0), Due.UNKNOWN);
        due.is("flips(0, 5) without a MACHINE", new TreeActs().flips(0, 5), Due.UNKNOWN);
    }

    // ---- promise 12

    private static void roundLengths() {
        due.sentence(12, "OUTSIDE: length (0 to 8)");
        TreeActs x = Due.with(Due.ODOMETER, "a");
        for (int length = 0; length <= 8; length++) {
            due.is("round(0, 0, " + length + ")", x.round(0, 0, length), 1 << length);
        }
        for (int length : new int[] {Due.LEAST, -2, -1, 9, 10, 12, 31, 32, 33, 40, 256, Due.MOST}) {
            due.is("round(0, 0, " + length + ")", x.round(0, 0, length), Due.OUTSIDE);
            due.is("round(1, 0, " + length + ") of an empty WORD", x.round(1, 0, length), Due.OUTSIDE);
        }
    }

    private static void roundRows() {
        due.sentence(12, "OUTSIDE: .. row");
        TreeActs x = Due.with(Due.ODOMETER, "a");
        for (int length = 0; length <= 8; length++) {
            int last = (1 << length) - 1;
            due.is("the last row", x.round(0, last, length), 1 << length);
            due.is("one behind it", x.round(0, last + 1, length), Due.OUTSIDE);
            due.is("row -1", x.round(0, -1, length), Due.OUTSIDE);
            due.is("the least row", x.round(0, Due.LEAST, length), Due.OUTSIDE);
            due.is("the largest row", x.round(0, Due.MOST, length), Due.OUTSIDE);
            due.is("one behind it, an empty WORD", x.round(1, last + 1, length), Due.OUTSIDE);
        }
    }

    private static void roundOfRowsThatStay() {
        due.sentence(12, "How often a WORD is to be done till a ROW is again as it was");
        TreeActs x = Due.with("s01,o--", "a", "b");
        due.is("a ROW that stays", x.round(0, 0, 8), 1);
        due.is("a ROW that comes back", x.round(0, 255, 8), 2);
        due.is("a ROW too short to be changed", x.round(0, 1, 1), 1);
        due.is("an empty WORD", x.round(2, 255, 8), 1);
        due.is("a ROW without a SIGN", x.round(1, 0, 0), 1);
        TreeActs often = Due.with(Due.ODOMETER, "a", "aa", "aaaa");
        due.is("all 256 of them", often.round(0, 77, 8), 256);
        due.is("by two", often.round(1, 77, 8), 128);
        due.is("by four", often.round(2, 77, 8), 64);
        Due.putLong(often, 0, 1, "aaaaaaaaaaaaaaaa");
        due.is("by sixteen", often.round(0, 77, 8), 16);
        due.is("by sixteen, four SIGNS", often.round(0, 7, 4), 1);
        put(often, 0, "AAA");
        due.is("three back", often.round(0, 255, 8), 256);
    }

    private static void roundOfUnknown() {
        due.sentence(12, "UNKNOWN: as for act()");
        TreeActs x = Due.with(Due.ODOMETER);
        for (int word : NO_WORDS) {
            due.is("round(" + word + ", 0, 0)", x.round(word, 0, 0), Due.UNKNOWN);
            due.is("round(" + word + ", 0, 9)", x.round(word, 0, 9), Due.UNKNOWN);
            due.is("round(" + word + ", -1, 3)", x.round(word, -1, 3), Due.UNKNOWN);
        }
        due.is("round(0, 0, 0) without a MACHINE", new TreeActs().round(0, 0, 0), Due.UNKNOWN);
        due.is("round(0, 9, 9) without a MACHINE", new TreeActs().round(0, 9, 9), Due.UNKNOWN);
    }

    // ---- promise 13

    private static void nothingOfAnEmptyWord() {
        due.sentence(13, "A WORD is NOTHING, if it lets all ROWS be");
        TreeActs x = Due.with(SIX, "", "d", "D");
        due.is("an empty WORD", x.nothing(0), 1);
        due.is("a STILL", x.nothing(1), 1);
        due.is("its INVERSE", x.nothing(2), 1);
        put(x, 0, "e");
        due.is("a ONCE", x.nothing(0), 0);
        put(x, 0, "ee");
        due.is("a ONCE twice", x.nothing(0), 1);
        // it flips far behind alone: the 6th SIGN of one ROW
        due.is("far behind", Due.with("s1-,s-2,s3-,s-4,s5-,o--", "a").nothing(0), 0);
        due.is("nowhere", Due.with("s1-,s-2,s3-,s-4,s5-,r--", "a").nothing(0), 1);
        due.is("a round that flips nowhere", Due.with("s12,s20,s01", "aBc").nothing(0), 1);
    }

    /**
     * Goes through a word and its sections with section() and flips() alone: how many there are till one flips or
     * none is left (200 at most), as a negative number if the last one flips.
     */
    private static int goneThrough(String machine, String word) {
        LinkedHashSet<String> known = new LinkedHashSet<>();
        List<String> inOrder = new ArrayList<>();
        known.add(word);
        inOrder.add(word);
        for (int gone = 0; gone < inOrder.size() && gone < 200; gone++) {
            TreeActs x = Due.with(machine, inOrder.get(gone));
            if (x.flips(0, 0) == 1) {
                return -(gone + 1);
            }
            for (int sign = 0; sign <= 1; sign++) {
                x.section(0, sign, 1);
                String section = Due.textOf(x, 1);
                if (known.add(section)) {
                    inOrder.add(section);
                }
            }
        }
        return inOrder.size();
    }

    private static void nothingFortyOfThem() {
        due.sentence(13, "till one flips SIGN 0 of its ROWS, or all are gone through, or 40 of them are and there is "
            + "another one (it is not told)");
        dueNothing("s14,s23,s-3,s35,s-1,s20", "CCF", 39, 1);
        dueNothing("s12,s42,s30,s41,s00", "BEbD", 39, 1);
        dueNothing("s51,s32,s5-,s-4,s05,s31", "AdaBf", 40, 1);
        dueNothing("s12,s21,s02,s20", "cbbAbCBd", 40, 1);
        dueNothing("s52,s10,s25,s43,s03,s-3", "FBdB", 40, 1);
        dueNothing("s55,s34,s-1,s-5,s45,s30", "BAECED", 41, Due.NONE);
        dueNothing("s23,s00,s12,s10", "BDbABaab", 41, Due.NONE);
        dueNothing("s42,s12,s0-,s0-,s34", "AcdBdccB", 41, Due.NONE);
        dueNothing("s51,s45,s4-,o05,s30,s02", "Afeeaeea", -39, 0);
        dueNothing("s44,s21,s03,w50,s21,s5-", "CEBC", -39, 0);
        dueNothing("s0-,f05,s45,s15,s45,s53", "ecFEEf", -40, 0);
        dueNothing("s51,s35,s52,s24,w-1,s-0", "DBcbdCBB", -40, 0);
        dueNothing("f25,f-0,s25,s04,s-5,s43", "dcedCE", -40, 0);
        dueNothing("s03,s04,s41,s53,s22,f-4", "CFFEEc", -41, Due.NONE);
        dueNothing("w33,s40,s13,s43,s24", "ddEcDDEC", -41, Due.NONE);
        dueNothing("s2-,s45,f43,s00,s14,s--", "BCCCC", -41, Due.NONE);
    }

    private static void dueNothing(String machine, String word, int gone, int want) {
        due.is("sections of " + word + " by " + machine, goneThrough(machine, word), gone);
        due.is("nothing() of " + word + " by " + machine, Due.with(machine, word).nothing(0), want);
    }

    private static void nothingEachButOnce() {
        due.sentence(13, "each but once (by its LETTERS)");
        dueNothing("r--", "a", 2, 1);
        dueNothing("s00", "a", 1, 1);
        dueNothing("s00", "aaaaaaaa", 1, 1);
        dueNothing("s11,s00", "aB", 2, 1);
        // act alike, but have other LETTERS: each is gone through
        dueNothing("s12,s34,s55,r--,r--,r--", "a", 7, 1);
        // 40 and more are known, of which one flips that is among the first 40
        dueNothing("s13,s10,f01,s22", "BCBC", -32, 0);
        dueNothing("f44,s12,s25,s-5,s21,s04", "CDCFcef", -24, 0);
    }

    private static void nothingInOrderAsTheyCome() {
        due.sentence(13, "in order as they come (of one that is gone through: that at 0, then that at 1)");
        // the other way about these would be told unlike
        dueTold("f2-,s34,s21,s51,s14,s40", "fBBf", Due.NONE);
        dueTold("s01,s22,s05,w31,s42,s33", "aEBebA", Due.NONE);
        dueTold("s-4,w20,s02,s03,s11", "AECAdaae", Due.NONE);
        dueTold("s33,s-5,s-4,s25,f03,s03", "bbAeAE", 0);
        dueTold("f12,s34,s14,s23,s02", "EEBdcBdc", 0);
        dueTold("s41,s55,s12,s-0,f51,s32", "bfAcafB", 0);
        // first behind the one, then behind the other, these would be
        dueTold("s03,s04,s41,s53,s22,f-4", "CFFEEc", Due.NONE);
        dueTold("s20,s20,w20", "bbbababa", Due.NONE);
        dueTold("s4-,s03,s42,f31,s24", "DbeDb", 0);
        dueTold("s24,s13,s15,s21,o00,s35", "BFbab", 0);
        dueTold("s51,o54,s23,s43,s-5,s52", "acfD", 0);
    }

    private static void dueTold(String machine, String word, int want) {
        int gone = goneThrough(machine, word);
        due.is("sections of " + word + " by " + machine, gone < 0 && gone >= -40 ? 0 : Due.NONE, want);
        due.is("nothing() of " + word + " by " + machine, Due.with(machine, word).nothing(0), want);
    }

    private static void nothingOfUnknown() {
        due.sentence(13, "UNKNOWN: as for act()");
        TreeActs x = Due.with(Due.ODOMETER);
        for (int word : NO_WORDS) {
            due.is("nothing(" + word + ")", x.nothing(word), Due.UNKNOWN);
        }
        for (int word = 0; word < 3; word++) {
            due.is("nothing(" + word + ") without a MACHINE", new TreeActs().nothing(word), Due.UNKNOWN);
        }
    }

    // ---- promise 14

    private static void alikeEmptyWords() {
        due.sentence(14, "Whether two WORDS act alike: empty ones");
        TreeActs x = Due.with("r--,o--", "", "a", "b");
        due.is("two empty ones", x.alike(0, 0), 1);
        due.is("an empty one and one that does nothing", x.alike(0, 1), 1);
        due.is("the other way about", x.alike(1, 0), 1);
        due.is("an empty one and one that flips", x.alike(0, 2), 0);
        due.is("the other way about", x.alike(2, 0), 0);
        due.is("one and itself", x.alike(2, 2), 1);
    }

    private static void alikeIsReduced() {
        due.sentence(14, "REDUCED, is NOTHING");
        // of itself it is not told, but REDUCED nothing is left of it and its INVERSE
        TreeActs x = Due.with("s12,s23,s03,s2-", "aDC", "aDC");
        due.is("nothing()", x.nothing(0), Due.NONE);
        due.is("one and itself", x.alike(0, 0), 1);
        due.is("one and its like", x.alike(0, 1), 1);
        // told REDUCED alone, since there are fewer of them
        due.is("some go", Due.with("s32,s33,s03,s10", "bbAb", "bDbaDAb").alike(0, 1), 1);
        due.is("some go", Due.with("s33,s42,s14,s23,s23", "cEa", "bEba").alike(0, 1), 1);
        due.is("some go", Due.with("s31,s32,s33,s20", "BCdaddC", "C").alike(0, 1), 1);
        // 32 letters, none of which go
        TreeActs longest = Due.with(Due.ODOMETER);
        Due.putLong(longest, 0, 2, "aaaaaaaaaaaaaaaa");
        longest.undo(0, 1);
        due.is("sixteen more and sixteen less", longest.alike(0, 1), 0);
        due.is("sixteen more and itself", longest.alike(0, 0), 1);
        TreeActs flips = Due.with("o--,f--");
        Due.putLong(flips, 0, 2, "abababababababab");
        Due.putLong(flips, 1, 2, "BABABABABABABABA");
        due.is("32 that flip once each", flips.alike(0, 1), 1);
        due.is("the words are as they were", flips.count(3), 16 + 16 + 8);
    }

    private static void alikeOrderOfLetters() {
        due.sentence(14, "the first one, then the INVERSES of the other one's LETTERS from its last one back");
        // the other way about these would not be told, or told though they are not
        due.is("told so alone", Due.with("s03,s23,s12,s14,s3-", "EDae", "Ca").alike(0, 1), 1);
        due.is("told so alone", Due.with("s21,s-4,s13,s-2,s10,s15", "BCD", "EF").alike(0, 1), 1);
        due.is("not told so", Due.with("s20,s-3,s55,s30,s14,s21", "dCD", "f").alike(0, 1), Due.NONE);
        due.is("not told so", Due.with("s12,s32,s13,s03,s0-,s23", "B", "Accf").alike(0, 1), Due.NONE);
        due.is("told so alone", Due.with("f3-,s33,s44,s23,s02", "dCa", "DCa").alike(0, 1), 0);
        due.is("told so alone", Due.with("s34,w-0,s1-,s42,s40", "aCdcA", "ccd").alike(0, 1), 0);
        due.is("not told so", Due.with("s-2,w-0,s33,s21", "dcc", "daa").alike(0, 1), Due.NONE);
        due.is("not told so", Due.with("s12,f24,s-3,s30,s44", "ad", "aCCD").alike(0, 1), Due.NONE);
        TreeActs x = Due.with("o--,s-0", "ab", "ba", "BA");
        due.is("ab and ba", x.alike(0, 1), 0);
        due.is("ab and BA", x.alike(0, 2), 0);
    }

    private static void alikeNotTold() {
        due.sentence(14, "NONE: it is not told");
        TreeActs x = Due.with("s12,s23,s03,s2-", "aD", "c", "aDC");
        due.is("aD and c", x.alike(0, 1), Due.NONE);
        due.is("aDC and an empty one", Due.with("s12,s23,s03,s2-", "aDC").alike(0, 1), Due.NONE);
        due.is("40 and no other", Due.with("s12,s21,s02,s20", "cbbAb", "Dbc").alike(0, 1), 1);
        due.is("40 and another", Due.with("s23,s00,s12,s10", "BDbAB", "BAA").alike(0, 1), Due.NONE);
    }

    private static void alikeOfUnknown() {
        due.sentence(14, "UNKNOWN: one, other, as for act()");
        TreeActs x = Due.with(Due.ODOMETER);
        for (int word : NO_WORDS) {
            due.is("alike(" + word + ", 0)", x.alike(word, 0), Due.UNKNOWN);
            due.is("alike(0, " + word + ")", x.alike(0, word), Due.UNKNOWN);
            due.is("alike(" + word + ", " + word + ")", x.alike(word, word), Due.UNKNOWN);
        }
        due.is("alike(0, 1) without a MACHINE", new TreeActs().alike(0, 1), Due.UNKNOWN);
        due.is("alike(0, 0) without a MACHINE", new TreeActs().alike(0, 0), Due.UNKNOWN);
    }

    // ---- promise 15

    private static void orderOneToEight() {
        due.sentence(15, "the least N, 1 to 8 .. not told .. if there is none");
        // a tree of which one more SIGN is counted at each: a chain of counting states that ends
        String[] counters = {"r--", "o--", "f-1,o--", "f-1,f-2,o--", "f-1,f-2,f-3,o--", "f-1,f-2,f-3,f-4,o--"};
        int[] orders = {1, 2, 4, 8, Due.NONE, Due.NONE};
        for (int i = 0; i < counters.length; i++) {
            TreeActs x = Due.with(counters[i], "a", "A", "aa");
            due.is("ORDER, " + i + " SIGNS counted", x.order(0), orders[i]);
            due.is("ORDER of its INVERSE", x.order(1), orders[i]);
            due.is("ORDER of it twice", x.order(2), i == 0 ? 1 : i <= 4 ? 1 << (i - 1) : Due.NONE);
        }
        TreeActs x = Due.with(Due.ODOMETER, "", "a");
        due.is("ORDER of an empty WORD", x.order(0), 1);
        due.is("ORDER of one that never does nothing", x.order(1), Due.NONE);
        TreeActs group = Due.with(Due.GRIGORCHUK, "ad", "ac", "ab");
        due.is("ORDER 4", group.order(0), 4);
        due.is("ORDER 8", group.order(1), 8);
        due.is("16 times, that is none", group.order(2), Due.NONE);
    }

    private static void orderNotTold() {
        due.sentence(15, "not told, if for a lesser one it is not told whether it is");
        due.is("not told for 1", Due.with("s12,s23,s03,s2-", "aDC").order(0), Due.NONE);
        due.is("not told for 1", Due.with("s--,s52,s45,s40,s51,s33", "BedaaCb").order(0), Due.NONE);
        due.is("not told for 2", Due.with("s42,s32,s02,o--,s20", "AAebCa").order(0), Due.NONE);
        due.is("not told for 2", Due.with("s01,w01,s30,s00", "cbADABAD").order(0), Due.NONE);
        due.is("not told for 4", Due.with("s15,s41,o-3,s12,s-3,s44", "cdbbFd").order(0), Due.NONE);
        due.is("not told for 8", Due.with("w3-,f33,f02,s20", "DDA").order(0), Due.NONE);
        // for 1 it is told, as all 40 are gone through, or the 40th one flips
        due.is("told for 1", Due.with("s52,s10,s25,s43,s03,s-3", "FBdB").order(0), 1);
    }

    private static void orderOfSixteenLetters() {
        due.sentence(15, "it N times one behind the other (REDUCED)");
        String[] machines = {"o31,s-3,w1-,f0-,f01", "s24,s23,o01,s0-,o03", "w2-,w11,s-1,s--", "s-0,s-4,s04,s-1,o22",
            "o-0,w20,f0-,s-3,s-1", "s-0,s-0,o44,o02,s31", "o35,s15,o3-,w-4,s00,o42",
            "o34,s54,s34,s12,s14,s5-", "s42,s-5,o34,s45,o21,s42", "f-2,s22,s-1"};
        String[] words = {"EccDaCDeabCecEEE", "bacdCeedbadbcccA", "CbdADcaabCAACaaC", "beebCACDDAeAAACD",
            "DabDCabaDeBeCeab", "cDCeDbEcbCDbaeAA", "CfDebEbAFEFAdCaD",
            "BBBdBdbfeaDFDBBE", "fDcdaEcEBCEbFbAd", "cACBAcBCacbAbabc"};
        int[] orders = {8, 8, 8, 8, 4, 4, 4, 2, 2, 2};
        for (int i = 0; i < machines.length; i++) {
            TreeActs x = Due.with(machines[i]);
            due.is("LETTERS", Due.putLong(x, 0, 1, words[i]), 16);
            due.is("ORDER of " + words[i], x.order(0), orders[i]);
            due.wordIs(x, 0, words[i]);
        }
        // one behind the other the ends undo one another: REDUCED only the LETTER between them comes N times
        due.is("ORDER of a LETTER between others and their INVERSES", Due.with("f-1,o--,f-2", "cccaCCC").order(0), 4);
    }

    private static void orderOfUnknown() {
        due.sentence(15, "UNKNOWN: as for act()");
        TreeActs x = Due.with(Due.ODOMETER);
        for (int word : NO_WORDS) {
            due.is("order(" + word + ")", x.order(word), Due.UNKNOWN);
        }
        for (int word = 0; word < 3; word++) {
            due.is("order(" + word + ") without a MACHINE", new TreeActs().order(word), Due.UNKNOWN);
        }
    }

    // ---- promise 16

    private static void timesSixteenLetters() {
        due.sentence(16, "FULL: above 16");
        for (int one = 0; one <= 16; one++) {
            for (int other = 0; other <= 16; other++) {
                TreeActs x = Due.with("s01,f10");
                putAny(x, 0, 2, "a".repeat(one));
                putAny(x, 1, 2, "b".repeat(other));
                put(x, 2, "AB");
                int want = one + other <= 16 ? one + other : Due.FULL;
                due.is("times() of " + one + " and " + other, x.times(0, 1, 2), want);
                due.wordIs(x, 2, want == Due.FULL ? "AB" : "a".repeat(one) + "b".repeat(other));
                due.wordIs(x, 0, "a".repeat(one));
                due.wordIs(x, 1, "b".repeat(other));
            }
        }
    }

    private static int putAny(TreeActs x, int word, int spare, String text) {
        return text.length() <= 8 ? put(x, word, text) : Due.putLong(x, word, spare, text);
    }

    private static void timesFullByWhatIsLeft() {
        due.sentence(16, "REDUCED: how many LETTERS");
        for (int left = 0; left <= 16; left++) {
            // sixteen, and sixteen of which so many do not undo them
            TreeActs x = Due.with("s01,f10");
            putAny(x, 0, 2, "a".repeat(16));
            putAny(x, 1, 2, "A".repeat(16 - left) + "b".repeat(left));
            put(x, 2, "B");
            int want = 2 * left <= 16 ? 2 * left : Due.FULL;
            due.is("times() of which " + 2 * left + " are left", x.times(0, 1, 2), want);
            due.wordIs(x, 2, want == Due.FULL ? "B" : "a".repeat(left) + "b".repeat(left));
        }
        // one more than sixteen, and it goes again: 16 and "bBa.." is never seen, since WORDS are REDUCED
        TreeActs x = Due.with("s01,f10", "ab", "BA");
        due.is("both go", x.times(0, 1, 2), 0);
        due.is("two empty ones", x.times(2, 2, 2), 0);
        due.is("an empty one ahead", x.times(2, 0, 2), 2);
        due.wordIs(x, 2, "ab");
    }

    private static void timesOntoItself() {
        due.sentence(16, "A WORD becomes one WORD and another one behind it");
        TreeActs x = Due.with("s01,f10", "ab", "B");
        due.is("onto the first", x.times(0, 1, 0), 1);
        due.wordIs(x, 0, "a");
        due.is("onto the second", x.times(0, 1, 1), 2);
        due.wordIs(x, 1, "aB");
        due.is("one twice, onto itself", x.times(1, 1, 1), 4);
        due.wordIs(x, 1, "aBaB");
        due.is("onto itself", x.times(1, 1, 1), 8);
        due.is("onto itself", x.times(1, 1, 1), 16);
        due.is("onto itself", x.times(1, 1, 1), Due.FULL);
        due.wordIs(x, 1, "aBaBaBaBaBaBaBaB");
        due.is("full, onto the first", x.times(0, 1, 0), Due.FULL);
        due.wordIs(x, 0, "a");
        x.undo(0, 0);
        due.is("the INVERSE ahead of it", x.times(0, 1, 0), 15);
        due.wordIs(x, 0, "BaBaBaBaBaBaBaB");
        due.wordIs(x, 2, "");
    }

    private static void timesOfUnknown() {
        due.sentence(16, "UNKNOWN: one, other, to (0 to 2), or there is no MACHINE; ahead of FULL");
        TreeActs x = Due.with(Due.ODOMETER);
        Due.putLong(x, 0, 1, "aaaaaaaaaaaaaaaa");
        long before = x.digest();
        for (int word : NO_WORDS) {
            due.is("times(" + word + ", 0, 0)", x.times(word, 0, 0), Due.UNKNOWN);
            due.is("times(0, " + word + ", 0)", x.times(0, word, 0), Due.UNKNOWN);
            due.is("times(0, 0, " + word + ")", x.times(0, 0, word), Due.UNKNOWN);
            due.is("times(2, 2, " + word + ")", x.times(2, 2, word), Due.UNKNOWN);
        }
        due.is("nothing is changed", x.digest(), before);
        due.is("times(0, 0, 0)", x.times(0, 0, 0), Due.FULL);
        due.is("times(0, 1, 2) without a MACHINE", new TreeActs().times(0, 1, 2), Due.UNKNOWN);
    }

    // ---- promise 17

    private static void undoEdges() {
        due.sentence(17, "A WORD becomes that which undoes one: how many LETTERS");
        TreeActs x = Due.with(SIX, "", "abCdEF");
        due.is("an empty one", x.undo(0, 2), 0);
        due.is("another", x.undo(1, 2), 6);
        due.wordIs(x, 2, "feDcBA");
        due.wordIs(x, 1, "abCdEF");
        due.is("onto itself", x.undo(1, 1), 6);
        due.wordIs(x, 1, "feDcBA");
        due.is("an empty one onto one that is not", x.undo(0, 1), 0);
        due.wordIs(x, 1, "");
        due.is("sixteen", Due.putLong(x, 0, 1, "abcdefABCDEFabcd"), 16);
        due.is("undo() of sixteen", x.undo(0, 2), 16);
        due.wordIs(x, 2, "DCBAfedcbaFEDCBA");
        due.is("both", x.times(0, 2, 1), 0);
        due.is("undo() of sixteen onto itself", x.undo(0, 0), 16);
        due.wordIs(x, 0, "DCBAfedcbaFEDCBA");
        TreeActs odd = Due.with("s01,f10", "abb");
        odd.undo(0, 0);
        due.wordIs(odd, 0, "BBA");
    }

    private static void undoOfUnknown() {
        due.sentence(17, "UNKNOWN: one, to, as for times()");
        TreeActs x = Due.with(Due.ODOMETER, "aa", "a", "A");
        long before = x.digest();
        for (int word : NO_WORDS) {
            due.is("undo(" + word + ", 0)", x.undo(word, 0), Due.UNKNOWN);
            due.is("undo(0, " + word + ")", x.undo(0, word), Due.UNKNOWN);
        }
        due.is("nothing is changed", x.digest(), before);
        due.is("undo(0, 1) without a MACHINE", new TreeActs().undo(0, 1), Due.UNKNOWN);
    }

    // ---- promise 18

    private static void sectionEdges() {
        due.sentence(18, "A WORD becomes the SECTION of one at a SIGN: how many LETTERS");
        TreeActs x = Due.with("f12,s0-,w21", "", "abC");
        due.is("of an empty one at 0", x.section(0, 0, 2), 0);
        due.is("of an empty one at 1", x.section(0, 1, 2), 0);
        // a finds 0, goes on by b, makes 1; b finds 1, has none; C finds 1, as c has made it: c goes on by b
        due.is("abC at 0", x.section(1, 0, 2), 0);
        // a finds 1, goes on by c, makes 0; b finds 0, goes on by a; C finds 0, as c has made it: c goes on by c
        due.is("abC at 1", x.section(1, 1, 2), 3);
        due.wordIs(x, 2, "caC");
        due.wordIs(x, 1, "abC");
        due.is("onto itself", x.section(1, 1, 1), 3);
        due.wordIs(x, 1, "caC");
        due.is("of an empty one onto one that is not", x.section(0, 0, 1), 0);
        due.wordIs(x, 1, "");
        TreeActs longest = Due.with("f10,w01");
        Due.putLong(longest, 0, 1, "abababababababab");
        // at 0 a goes on by b and makes 1, b goes on by a and makes 0; at 1 each goes on by itself
        due.is("of sixteen at 0", longest.section(0, 0, 1), 16);
        due.wordIs(longest, 1, "babababababababa");
        due.is("of sixteen at 1", longest.section(0, 1, 1), 16);
        due.wordIs(longest, 1, "abababababababab");
        due.is("of sixteen onto itself", longest.section(0, 0, 0), 16);
        due.wordIs(longest, 0, "babababababababa");
    }

    private static void sectionNoneAreLeftOut() {
        due.sentence(18, "of each LETTER, in order, that by which it goes on; none are left out");
        due.is("a STILL", Due.with("r00", "a").section(0, 0, 0), 0);
        due.is("a ONCE", Due.with("o00", "a").section(0, 1, 0), 0);
        due.is("the INVERSE of a STILL", Due.with("r00", "A").section(0, 0, 0), 0);
        due.is("the INVERSE of a ONCE", Due.with("o00", "A").section(0, 1, 0), 0);
        due.is("none for 0", Due.with("s-0", "a").section(0, 0, 0), 0);
        due.is("one for 1", Due.with("s-0", "a").section(0, 1, 0), 1);
        TreeActs x = Due.with("s1-,o--,r11", "abcab");
        // a finds 0: b; b makes 1: none; c none; a finds 1: none; b: none
        due.is("abcab at 0", x.section(0, 0, 1), 1);
        due.wordIs(x, 1, "b");
        // a finds 1: none; b makes 0: none; c none; a finds 0: b; b: none
        due.is("abcab at 1", x.section(0, 1, 1), 1);
        due.wordIs(x, 1, "b");
        String[] kinds = {"s", "f", "w"};
        String[][] go = {{"b", "c", "B", "C"}, {"b", "c", "C", "B"}, {"c", "b", "B", "C"}};
        for (int kind = 0; kind < 3; kind++) {
            TreeActs y = Due.with(kinds[kind] + "12,s--,s--", "a", "A");
            y.section(0, 0, 2);
            due.wordIs(y, 2, go[kind][0]);
            y.section(0, 1, 2);
            due.wordIs(y, 2, go[kind][1]);
            y.section(1, 0, 2);
            due.wordIs(y, 2, go[kind][2]);
            y.section(1, 1, 2);
            due.wordIs(y, 2, go[kind][3]);
        }
    }

    private static void sectionIsReduced() {
        due.sentence(18, "none are left out; REDUCED");
        TreeActs x = Due.with("s11,r--,s11", "aC");
        due.is("aC at 0", x.section(0, 0, 1), 0);
        // b stands between them, but has none: they meet
        put(x, 0, "abC");
        due.is("abC at 0", x.section(0, 0, 1), 0);
        put(x, 0, "aabCCb");
        due.is("aabCCb at 1", x.section(0, 1, 1), 0);
        put(x, 0, "acb");
        due.is("acb at 1", x.section(0, 1, 1), 2);
        due.wordIs(x, 1, "bb");
    }

    private static void sectionOfWrongNumbers() {
        due.sentence(18, "UNKNOWN: one, to, as for times(); OUTSIDE: sign (0, 1)");
        TreeActs x = Due.with(Due.ODOMETER, "aa", "a", "A");
        long before = x.digest();
        for (int sign : NO_SIGNS) {
            due.is("section(0, " + sign + ", 1)", x.section(0, sign, 1), Due.OUTSIDE);
        }
        for (int word : NO_WORDS) {
            due.is("section(" + word + ", 0, 0)", x.section(word, 0, 0), Due.UNKNOWN);
            due.is("section(0, 0, " + word + ")", x.section(0, 0, word), Due.UNKNOWN);
            due.is("section(" + word + ", 2, 0)", x.section(word, 2, 0), Due.UNKNOWN);
            due.is("section(0, -1, " + word + ")", x.section(0, -1, word), Due.UNKNOWN);
        }
        due.is("nothing is changed", x.digest(), before);
        due.is("section(0, 0, 1) without a MACHINE", new TreeActs().section(0, 0, 1), Due.UNKNOWN);
        due.is("section(0, 2, 1) without a MACHINE", new TreeActs().section(0, 2, 1), Due.UNKNOWN);
    }
}
