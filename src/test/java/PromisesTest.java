/** For each promise of the document: ordinary calls, the edges that it names, and wrong ones. */
public final class PromisesTest {
    private static final int NONE = -1, UNKNOWN = -101, OUTSIDE = -102, STATE = -103, FULL = -104;
    /** Adds one to a number whose lowest sign comes first. */
    private static final String ODOMETER = "f-0";
    /** b, c and d are of order 2, as is a; bcd does nothing. */
    private static final String GRIGORCHUK = "o--,s02,s03,s-1";
    private static int wrong = 0;

    public static void main(String[] args) {
        newObject();
        letter();
        blank();
        fault();
        machine();
        machineForgetsAll();
        word();
        stateAsTold();
        stateReach();
        stateAlike();
        stateSorts();
        as();
        sign();
        actByKinds();
        actEdges();
        flips();
        round();
        nothing();
        alike();
        order();
        times();
        undo();
        section();
        aim();
        change();
        see();
        forget();
        drawn();
        image();
        restore();
        count();
        digest();
        extremeArguments();
        System.out.println(wrong == 0 ? "all promises hold" : wrong + " answers are not as due");
        if (wrong != 0) {
            System.exit(1);
        }
    }

    private static void due(int promise, String what, long got, long want) {
        if (got != want) {
            wrong++;
            System.out.println("promise " + promise + ": " + what + " answered " + got + ", due is " + want);
        }
    }

    private static void type(TreeActs x, String text) {
        for (int i = 0; i < text.length(); i++) {
            x.letter(text.charAt(i));
        }
    }

    private static TreeActs with(String machine, String... words) {
        TreeActs x = new TreeActs();
        type(x, machine);
        due(5, "machine() of " + machine, x.machine(), (machine.length() + 1) / 4);
        for (int i = 0; i < words.length; i++) {
            type(x, words[i]);
            if (x.word(i) < 0) {
                due(6, "word of " + words[i], -1, 0);
            }
        }
        return x;
    }

    private static String text(TreeActs x, int word) {
        StringBuilder letters = new StringBuilder();
        for (int i = 0; x.sign(word, i) >= 0; i++) {
            letters.append((char) x.sign(word, i));
        }
        return letters.toString();
    }

    private static void dueText(int promise, TreeActs x, int word, String want) {
        String got = text(x, word);
        if (!got.equals(want)) {
            wrong++;
            System.out.println("promise " + promise + ": word is " + got + ", due is " + want);
        }
    }

    private static void newObject() {
        TreeActs x = new TreeActs();
        for (int what = 0; what <= 6; what++) {
            due(1, "count " + what, x.count(what), 0);
        }
        for (int word = 0; word < 3; word++) {
            due(1, "sign", x.sign(word, 0), UNKNOWN);
            due(1, "word without a machine", x.word(word), UNKNOWN);
        }
        due(1, "fault", x.fault(), 0);
        due(1, "blank", x.blank(), 0);
        due(1, "state", x.state(0, 0), UNKNOWN);
        due(1, "forget", x.forget(), 0);
        // 1471 and the seven zeros of count()
        long h = 1471;
        for (int i = 0; i < 7; i++) {
            h *= 31;
        }
        due(1, "digest", x.digest(), h);
    }

    private static void letter() {
        TreeActs x = new TreeActs();
        due(2, "0", x.letter(0), OUTSIDE);
        due(2, "127", x.letter(127), OUTSIDE);
        due(2, "-1", x.letter(-1), OUTSIDE);
        due(2, "1", x.letter(1), 1);
        due(2, "126", x.letter(126), 2);
        for (int i = 3; i <= 24; i++) {
            due(2, "number " + i, x.letter('s'), i);
        }
        due(2, "number 25", x.letter('s'), FULL);
        due(2, "0 with a full page", x.letter(0), OUTSIDE);
        due(2, "still", x.count(5), 24);
    }

    private static void blank() {
        TreeActs x = new TreeActs();
        type(x, "f-0");
        due(3, "blank", x.blank(), 3);
        due(3, "again", x.blank(), 0);
        due(3, "letters", x.count(5), 0);
        type(x, "sssssssssssssssssssssssss");
        due(3, "full", x.blank(), 24);
        due(3, "letter then", x.letter('s'), 1);
    }

    private static int faultOf(String page) {
        TreeActs x = new TreeActs();
        type(x, page);
        int at = x.fault();
        due(4, "the page after fault()", x.count(5), page.length());
        return at;
    }

    private static void fault() {
        due(4, "none", faultOf(""), 0);
        due(4, "s", faultOf("s"), 1);
        due(4, "x", faultOf("x"), 0);
        due(4, "S", faultOf("S"), 0);
        due(4, "0", faultOf("0"), 0);
        due(4, ",", faultOf(","), 0);
        due(4, "ss", faultOf("ss"), 1);
        due(4, "s6", faultOf("s6"), 1);
        due(4, "s/", faultOf("s/"), 1);
        due(4, "s5-", faultOf("s5-"), 3);
        due(4, "s5,", faultOf("s5,"), 2);
        due(4, "s5-s", faultOf("s5-s"), 3);
        due(4, "s5-,", faultOf("s5-,"), 4);
        due(4, "f01,w23,r45,o--,s0", faultOf("f01,w23,r45,o--,s0"), 18);
        due(4, "f01,w23,r45,o--,z0", faultOf("f01,w23,r45,o--,z0"), 16);
        due(4, "two faults", faultOf("f0x,z"), 2);
        due(4, "six states", faultOf("s00,s00,s00,s00,s00,s00"), 23);
        due(4, "a letter behind six states", faultOf("s00,s00,s00,s00,s00,s00,"), 23);
    }

    private static int machineOf(String page) {
        TreeActs x = new TreeActs();
        type(x, page);
        int answer = x.machine();
        due(5, "the page after " + page, x.count(5), answer < 0 ? page.length() : 0);
        due(5, "states after " + page, x.count(0), Math.max(answer, 0));
        due(5, "reads after " + page, x.count(6), answer < 0 ? 0 : 1);
        return answer;
    }

    private static void machine() {
        due(5, "none", machineOf(""), STATE);
        due(5, "s", machineOf("s"), STATE);
        due(5, "s-", machineOf("s-"), STATE);
        due(5, "s--,", machineOf("s--,"), STATE);
        due(5, "s--,s", machineOf("s--,s"), STATE);
        due(5, "x--", machineOf("x--"), STATE);
        due(5, "s01", machineOf("s01"), STATE);
        due(5, "s10", machineOf("s10"), STATE);
        due(5, "r1-: a next that there is not, whatever the kind", machineOf("r1-"), STATE);
        due(5, "s00", machineOf("s00"), 1);
        due(5, "r--", machineOf("r--"), 1);
        due(5, "s02,s--", machineOf("s02,s--"), STATE);
        due(5, "s01,s--", machineOf("s01,s--"), 2);
        due(5, "five, next 5", machineOf("s00,s00,s00,s00,s05"), STATE);
        due(5, "six, next 5", machineOf("s00,f00,w00,r00,o00,s05"), 6);
        due(5, "six and a comma", machineOf("s00,f00,w00,r00,o00,s05,"), STATE);
    }

    private static void machineForgetsAll() {
        TreeActs x = with("s01,f10", "ab", "b", "A");
        x.see(0, 0, true);
        x.image();
        type(x, "x--");
        due(5, "refused", x.machine(), STATE);
        due(5, "letters stay", x.count(3), 4);
        due(5, "seen stays", x.count(4), 1);
        due(5, "states stay", x.count(0), 2);
        x.blank();
        type(x, "s01,f10");
        due(5, "the like once more", x.machine(), 2);
        due(5, "letters", x.count(3), 0);
        due(5, "seen", x.count(4), 0);
        due(5, "sorts", x.state(0, 6), 31);
        due(5, "image", x.restore(), STATE);
        due(5, "reads", x.count(6), 2);
        type(x, "ab");
        x.word(1);
        type(x, "o--");
        due(5, "fewer states", x.machine(), 1);
        due(5, "state 1 is gone", x.state(1, 0), UNKNOWN);
        dueText(5, x, 1, "");
    }

    private static void word() {
        TreeActs x = with("s01,f10");
        type(x, "aB");
        due(6, "word 3", x.word(3), UNKNOWN);
        due(6, "word -1", x.word(-1), UNKNOWN);
        due(6, "the page stays", x.count(5), 2);
        due(6, "aB", x.word(2), 2);
        due(6, "the page is empty", x.count(5), 0);
        dueText(6, x, 2, "aB");
        String[] none = {"c", "C", "aac", "g", "G", "z", "1", "-", "aAaAaAaAa", "aaaaaaaaa", "`", "@"};
        for (String page : none) {
            type(x, page);
            due(6, page, x.word(2), STATE);
            due(6, "the page stays", x.blank(), page.length());
            dueText(6, x, 2, "aB");
        }
        type(x, "aaaabbbb");
        due(6, "eight", x.word(0), 8);
        type(x, "abBAaBbA");
        due(6, "all go", x.word(0), 0);
        type(x, "abBBbaAb");
        due(6, "some go", x.word(0), 2);
        dueText(6, x, 0, "ab");
        type(x, "AbaABa");
        due(6, "to none within", x.word(0), 0);
        type(x, "aBbb");
        due(6, "aBbb", x.word(0), 2);
        due(6, "none", x.word(0), 0);
        TreeActs six = with("s00,s00,s00,s00,s00,s00", "fFfeE", "FED");
        dueText(6, six, 0, "f");
        dueText(6, six, 1, "FED");
    }

    private static void stateAsTold() {
        TreeActs x = with("s01,f1-,w-2,r34,o40");
        int[][] want = {{0, 0, 1}, {1, 1, NONE}, {2, NONE, 2}, {3, 3, 4}, {4, 4, 0}};
        for (int state = 0; state < 5; state++) {
            for (int what = 0; what < 3; what++) {
                due(7, "state " + state + ", " + what, x.state(state, what), want[state][what]);
            }
        }
        due(7, "state 5", x.state(5, 0), UNKNOWN);
        due(7, "state -1", x.state(-1, 0), UNKNOWN);
        due(7, "what 8", x.state(0, 8), OUTSIDE);
        due(7, "what -1", x.state(0, -1), OUTSIDE);
        due(7, "both", x.state(5, 8), UNKNOWN);
    }

    private static void stateReach() {
        TreeActs x = with("s12,f--,w34,r00,o00,s-5");
        int[] reach = {2 + 4 + 8 + 16, 0, 8 + 16, 0, 0, 32};
        int[] core = {0, 0, 0, 0, 0, 1};
        for (int state = 0; state < 6; state++) {
            due(7, "reach of " + state, x.state(state, 3), reach[state]);
            due(7, "core of " + state, x.state(state, 4), core[state]);
        }
        due(26, "in the core", x.count(2), 1);
        TreeActs chain = with("s5-,s0-,s1-,s2-,s3-,s4-");
        due(7, "a long round", chain.state(0, 3), 63);
        due(26, "all in the core", chain.count(2), 6);
        chain.change(5, 3);
        due(7, "cut", chain.state(4, 3), 1 + 2 + 4 + 8 + 32);
    }

    private static void stateAlike() {
        TreeActs x = with("f-1,w0-,o01,r11,s--,s34");
        int[] least = {0, 0, 2, 3, 3, 3};
        for (int state = 0; state < 6; state++) {
            due(7, "least alike of " + state, x.state(state, 5), least[state]);
        }
        due(26, "classes", x.count(1), 3);
        TreeActs late = with("s1-,s2-,s3-,s4-,o--,s0-");
        for (int state = 0; state < 6; state++) {
            due(7, "unlike, some only late: " + state, late.state(state, 5), state);
        }
        due(26, "six classes", late.count(1), 6);
        late.change(4, 0);
        due(26, "all do nothing", late.count(1), 1);
        due(7, "5 does nothing", late.state(5, 5), 0);
        TreeActs later = with("s1-,s2-,s3-,s4-,s5-,o--");
        due(26, "late", later.count(1), 6);
        TreeActs notInverse = with("f-0,f1-");
        due(7, "not its inverse", notInverse.state(1, 5), 1);
        TreeActs flips = with("w10,f10");
        due(7, "a twist and a flip", flips.state(1, 5), 0);
        due(26, "one class", flips.count(1), 1);
        due(26, "o-- and f--", with("o0-,f--").count(1), 1);
    }

    private static void stateSorts() {
        TreeActs x = with("s--,s--");
        due(7, "sorts at first", x.state(0, 6), 31);
        due(7, "ask at first", x.state(0, 7), 0);
        int[] yes = {2 + 4 + 16, 1 + 2 + 4, 4, 8 + 16};
        int[] askYes = {1, 0, 0, 0};
        int[] askNo = {1, 0, 0, 0};
        for (int what = 0; what < 4; what++) {
            x.see(1, what, true);
            due(7, "sorts if so " + what, x.state(1, 6), yes[what]);
            due(7, "ask if so " + what, x.state(1, 7), askYes[what]);
            due(7, "the other one", x.state(0, 6), 31);
            x.forget();
            x.see(1, what, false);
            due(7, "sorts if not " + what, x.state(1, 6), 31 - yes[what]);
            due(7, "ask if not " + what, x.state(1, 7), askNo[what]);
            x.forget();
        }
        x.see(0, 0, true);
        x.see(0, 1, true);
        due(7, "flip or twist", x.state(0, 6), 6);
        due(7, "ask 2", x.state(0, 7), 2);
        x.see(0, 3, true);
        due(7, "none can be", x.state(0, 6), 0);
        due(7, "nothing to ask", x.state(0, 7), NONE);
        due(7, "kind is as it was", x.state(0, 0), 0);
    }

    private static void as() {
        TreeActs x = with("s--,f--,w--,r--,o--");
        boolean[][] such = {
            {true, false, false, false, false},
            {true, true, false, false, false},
            {true, true, true, false, false},
            {true, false, false, true, false},
            {true, false, false, false, true}};
        for (int state = 0; state < 5; state++) {
            for (int kind = 0; kind < 5; kind++) {
                due(8, state + " as " + kind, x.as(state, kind), such[state][kind] ? state : NONE);
            }
        }
        due(8, "5", x.as(5, 0), UNKNOWN);
        due(8, "-1", x.as(-1, 9), UNKNOWN);
        due(8, "kind 5", x.as(0, 5), OUTSIDE);
        due(8, "kind -1", x.as(0, -1), OUTSIDE);
    }

    private static void sign() {
        TreeActs x = with("s01,f10", "aBA");
        due(9, "0", x.sign(0, 0), 'a');
        due(9, "1", x.sign(0, 1), 'B');
        due(9, "2", x.sign(0, 2), 'A');
        due(9, "3", x.sign(0, 3), UNKNOWN);
        due(9, "-1", x.sign(0, -1), UNKNOWN);
        due(9, "an empty word", x.sign(1, 0), UNKNOWN);
        due(9, "word 3", x.sign(3, 0), UNKNOWN);
        due(9, "word -1", x.sign(-1, 0), UNKNOWN);
    }

    /** Behind each kind: for 0 a state that flips one sign, for 1 one that flips the second. */
    private static void actByKinds() {
        String behind = ",o--,s11";
        int[][] want = {
            {0b010, 0b011, 0b000, 0b001, 0b101, 0b100, 0b111, 0b110},
            {0b110, 0b111, 0b100, 0b101, 0b001, 0b000, 0b011, 0b010},
            {0b101, 0b100, 0b111, 0b110, 0b010, 0b011, 0b000, 0b001},
            {0, 1, 2, 3, 4, 5, 6, 7},
            {4, 5, 6, 7, 0, 1, 2, 3}};
        for (int kind = 0; kind < 5; kind++) {
            TreeActs x = with("sfwro".charAt(kind) + "12" + behind, "a", "A");
            for (int row = 0; row < 8; row++) {
                due(10, "kind " + kind + ", row " + row, x.act(0, row, 3), want[kind][row]);
                due(10, "its inverse", x.act(1, want[kind][row], 3), row);
            }
        }
    }

    private static void actEdges() {
        TreeActs x = with(ODOMETER, "a", "A");
        due(10, "length 0", x.act(0, 0, 0), 0);
        due(10, "length 0, row 1", x.act(0, 1, 0), OUTSIDE);
        due(10, "length 1", x.act(0, 0, 1), 1);
        due(10, "carry", x.act(0, 4, 3), 2);
        due(10, "all carry", x.act(0, 4095, 12), 0);
        due(10, "one less", x.act(1, 0, 12), 4095);
        due(10, "row 4096", x.act(0, 4096, 12), OUTSIDE);
        due(10, "row -1", x.act(0, -1, 12), OUTSIDE);
        due(10, "length 13", x.act(0, 0, 13), OUTSIDE);
        due(10, "length -1", x.act(0, 0, -1), OUTSIDE);
        due(10, "word 3", x.act(3, 0, 13), UNKNOWN);
        due(10, "word -1", x.act(-1, 0, 0), UNKNOWN);
        due(10, "no machine", new TreeActs().act(0, 0, 99), UNKNOWN);
        due(10, "an empty word", x.act(2, 77, 7), 77);
        // the first letter acts first: a gives 10, then b flips its second sign
        TreeActs two = with("o--,s-0", "ab", "ba");
        due(10, "ab", two.act(0, 0, 2), 0b11);
        due(10, "ba", two.act(1, 0, 2), 0b10);
    }

    private static void flips() {
        TreeActs x = with(ODOMETER, "a", "A", "aa");
        int[] carry = {1, 2, 8, 128, 32768};
        for (int length = 0; length <= 4; length++) {
            due(11, "a, length " + length, x.flips(0, length), carry[length]);
            due(11, "A, length " + length, x.flips(1, length), 1);
        }
        due(11, "aa, length 0", x.flips(2, 0), 0);
        due(11, "aa, length 1", x.flips(2, 1), 3);
        due(11, "aa, length 2", x.flips(2, 2), 2 + 8);
        due(11, "length 5", x.flips(0, 5), OUTSIDE);
        due(11, "length -1", x.flips(0, -1), OUTSIDE);
        due(11, "word 3", x.flips(3, 5), UNKNOWN);
        due(11, "no machine", new TreeActs().flips(0, 0), UNKNOWN);
        due(11, "all rows", with("s00,o--").flips(0, 4), 0);
        TreeActs all = with("f00", "a");
        due(11, "everywhere", all.flips(0, 4), 65535);
    }

    private static void round() {
        TreeActs x = with(ODOMETER, "a", "A", "aaa");
        for (int length = 0; length <= 8; length++) {
            due(12, "a, length " + length, x.round(0, 0, length), 1 << length);
        }
        due(12, "A", x.round(1, 200, 8), 256);
        due(12, "aaa", x.round(2, 255, 8), 256);
        x.times(0, 0, 2);
        due(12, "aa", x.round(2, 5, 8), 128);
        due(12, "length 9", x.round(0, 0, 9), OUTSIDE);
        due(12, "length -1", x.round(0, 0, -1), OUTSIDE);
        due(12, "row 256", x.round(0, 256, 8), OUTSIDE);
        due(12, "row -1", x.round(0, -1, 8), OUTSIDE);
        due(12, "row 1 of length 0", x.round(0, 1, 0), OUTSIDE);
        due(12, "word 3", x.round(3, 0, 9), UNKNOWN);
        due(12, "no machine", new TreeActs().round(0, 0, 0), UNKNOWN);
        TreeActs some = with("s-1,o--", "a");
        due(12, "a row that stays", some.round(0, 1, 2), 1);
        due(12, "a row that does not", some.round(0, 2, 2), 2);
    }

    private static void nothing() {
        TreeActs x = with(GRIGORCHUK, "bcd", "bb", "abab");
        due(13, "bcd", x.nothing(0), 1);
        due(13, "bb", x.nothing(1), 1);
        due(13, "abab", x.nothing(2), 0);
        due(13, "word 3", x.nothing(3), UNKNOWN);
        due(13, "word -1", x.nothing(-1), UNKNOWN);
        due(13, "no machine", new TreeActs().nothing(0), UNKNOWN);
        due(13, "an empty word", with(ODOMETER).nothing(0), 1);
        due(13, "40 and no other", with("s14,s53,s41,s32,s24,s0-", "aF").nothing(0), 1);
        due(13, "40 and no other", with("s-4,s32,s55,s12,s15,s50", "Aef").nothing(0), 1);
        due(13, "40 and another", with("s12,s23,s03,s2-", "aDC").nothing(0), NONE);
        due(13, "40 and another", with("s22,s3-,s43,s03,s04", "CDAc").nothing(0), NONE);
        due(13, "the 40th flips", with("s20,s25,s53,s54,w5-,s01", "fccF").nothing(0), 0);
        due(13, "the 40th flips", with("s22,f43,s01,s4-,s04", "EEaa").nothing(0), 0);
        due(13, "the 41st flips", with("s54,s-2,s00,o03,s30,s21", "ACAC").nothing(0), NONE);
        due(13, "the 41st flips", with("s14,f5-,s42,s51,s30,s45", "feec").nothing(0), NONE);
    }

    private static void alike() {
        TreeActs x = with(GRIGORCHUK, "bc", "d", "ab");
        due(14, "bc and d", x.alike(0, 1), 1);
        due(14, "d and bc", x.alike(1, 0), 1);
        due(14, "bc and ab", x.alike(0, 2), 0);
        due(14, "ab and itself", x.alike(2, 2), 1);
        dueText(14, x, 2, "ab");
        due(14, "first 3", x.alike(3, 0), UNKNOWN);
        due(14, "second -1", x.alike(0, -1), UNKNOWN);
        due(14, "no machine", new TreeActs().alike(0, 0), UNKNOWN);
        TreeActs odometer = with(ODOMETER, "aa", "A");
        due(14, "not its inverse", odometer.alike(0, 1), 0);
        due(14, "not told", with("s12,s23,s03,s2-", "aD", "c").alike(0, 1), NONE);
        due(14, "of a and f", with("s14,s53,s41,s32,s24,s0-", "a", "f").alike(0, 1), 1);
        TreeActs longest = with(GRIGORCHUK, "abacabad", "abacabad");
        longest.times(0, 1, 0);
        longest.undo(0, 1);
        due(14, "sixteen letters each", longest.alike(0, 0), 1);
    }

    private static void order() {
        TreeActs x = with(GRIGORCHUK, "ad", "ac", "ab");
        due(15, "ad", x.order(0), 4);
        due(15, "ac", x.order(1), 8);
        due(15, "ab, whose order is 16", x.order(2), NONE);
        due(15, "word 3", x.order(3), UNKNOWN);
        due(15, "word -1", x.order(-1), UNKNOWN);
        due(15, "no machine", new TreeActs().order(0), UNKNOWN);
        due(15, "none", with(ODOMETER, "a").order(0), NONE);
        due(15, "an empty word", with(ODOMETER).order(0), 1);
        due(15, "a conjugate", with(GRIGORCHUK, "bab").order(0), 2);
        due(15, "not told for 1", with("s12,s23,s03,s2-", "aDC").order(0), NONE);
        due(15, "r", with("r--", "a").order(0), 1);
        due(15, "o", with("o--", "a").order(0), 2);
        TreeActs longest = with(GRIGORCHUK, "abacabac", "abacabac");
        longest.times(0, 1, 2);
        dueText(16, longest, 2, "abacabacabacabac");
        due(15, "sixteen letters: abac is of order 8, this is it four times", longest.order(2), 2);
        due(15, "a word is not changed", longest.count(3), 32);
    }

    private static void times() {
        TreeActs x = with("s01,f10", "abab", "BAab", "bbbb");
        due(16, "abab and none", x.times(0, 1, 0), 4);
        dueText(16, x, 0, "abab");
        type(x, "BAb");
        x.word(1);
        due(16, "abab and BAb", x.times(0, 1, 2), 3);
        dueText(16, x, 2, "abb");
        due(16, "onto the first", x.times(0, 0, 0), 8);
        dueText(16, x, 0, "abababab");
        due(16, "onto the second", x.times(2, 0, 0), 11);
        dueText(16, x, 0, "abbabababab");
        due(16, "11 and 3", x.times(2, 0, 2), 14);
        dueText(16, x, 2, "abbabbabababab");
        due(16, "14 and 11", x.times(2, 0, 1), FULL);
        dueText(16, x, 1, "BAb");
        type(x, "ab");
        x.word(1);
        due(16, "14 and 2", x.times(2, 1, 2), 16);
        due(16, "16 and 2", x.times(2, 1, 2), FULL);
        due(16, "still", x.count(3), 11 + 2 + 16);
        type(x, "BA");
        x.word(1);
        due(16, "16 and 2 that go", x.times(2, 1, 2), 14);
        type(x, "a");
        x.word(1);
        due(16, "14 and 1", x.times(2, 1, 2), 15);
        due(16, "15 and 1", x.times(2, 1, 2), 16);
        due(16, "16 and 1", x.times(2, 1, 2), FULL);
        x.undo(2, 0);
        due(16, "16 and its inverse", x.times(2, 0, 1), 0);
        due(16, "first 3", x.times(3, 0, 0), UNKNOWN);
        due(16, "second 3", x.times(0, 3, 0), UNKNOWN);
        due(16, "to 3", x.times(2, 2, 3), UNKNOWN);
        due(16, "to -1", x.times(2, 2, -1), UNKNOWN);
        due(16, "no machine", new TreeActs().times(0, 0, 0), UNKNOWN);
    }

    private static void undo() {
        TreeActs x = with("s01,f10", "abbA");
        due(17, "to another", x.undo(0, 1), 4);
        dueText(17, x, 1, "aBBA");
        dueText(17, x, 0, "abbA");
        due(17, "to itself", x.undo(0, 0), 4);
        dueText(17, x, 0, "aBBA");
        due(17, "none", x.undo(2, 0), 0);
        dueText(17, x, 0, "");
        due(17, "one 3", x.undo(3, 0), UNKNOWN);
        due(17, "to 3", x.undo(0, 3), UNKNOWN);
        due(17, "to -1", x.undo(0, -1), UNKNOWN);
        due(17, "no machine", new TreeActs().undo(0, 0), UNKNOWN);
    }

    private static void section() {
        TreeActs x = with("f12,s0-,w21", "a", "c", "b");
        due(18, "a at 0", x.section(0, 0, 2), 1);
        dueText(18, x, 2, "b");
        due(18, "a at 1", x.section(0, 1, 2), 1);
        dueText(18, x, 2, "c");
        x.section(1, 0, 2);
        dueText(18, x, 2, "b");
        x.section(1, 1, 2);
        dueText(18, x, 2, "c");
        x.undo(0, 2);
        x.section(2, 0, 2);
        dueText(18, x, 2, "C");
        x.undo(1, 2);
        x.section(2, 0, 2);
        dueText(18, x, 2, "C");
        type(x, "b");
        x.word(2);
        due(18, "none are left out", x.section(2, 1, 2), 0);
        // a goes on with b and makes it 1; b has none there; c goes on with c
        type(x, "abc");
        x.word(0);
        due(18, "abc at 0", x.section(0, 0, 0), 2);
        dueText(18, x, 0, "bc");
        TreeActs reduced = with("f11,s--,w11", "aC");
        due(18, "reduced", reduced.section(0, 0, 1), 0);
        due(18, "a still one and an once", with("r00,o00", "abAB").section(0, 0, 0), 0);
        due(18, "sign 2", x.section(0, 2, 0), OUTSIDE);
        due(18, "sign -1", x.section(0, -1, 0), OUTSIDE);
        due(18, "one 3", x.section(3, 2, 0), UNKNOWN);
        due(18, "to 3", x.section(0, 2, 3), UNKNOWN);
        due(18, "no machine", new TreeActs().section(0, 2, 0), UNKNOWN);
    }

    private static void aim() {
        TreeActs x = with("s01,f1-", "a");
        due(19, "0, 0", x.aim(0, 0, 1), 0);
        due(19, "told", x.state(0, 1), 1);
        due(19, "the other sign", x.state(0, 2), 1);
        due(19, "to none", x.aim(0, 0, NONE), 1);
        due(19, "told", x.state(0, 1), NONE);
        due(19, "from none", x.aim(1, 1, 1), NONE);
        due(19, "told", x.state(1, 2), 1);
        due(19, "words stay", x.count(3), 1);
        due(19, "state 2", x.aim(2, 2, 0), UNKNOWN);
        due(19, "to 2", x.aim(0, 2, 2), UNKNOWN);
        due(19, "to -2", x.aim(0, 0, -2), UNKNOWN);
        due(19, "sign 2", x.aim(0, 2, 0), OUTSIDE);
        due(19, "sign -1", x.aim(0, -1, NONE), OUTSIDE);
        due(19, "no machine", new TreeActs().aim(0, 0, NONE), UNKNOWN);
        due(19, "unchanged", x.state(0, 1), NONE);
    }

    private static void change() {
        TreeActs x = with("s0-,f1-", "ab");
        for (int kind = 0; kind < 5; kind++) {
            due(20, "to " + kind, x.change(0, kind), kind == 0 ? 0 : kind - 1);
            due(20, "is " + kind, x.state(0, 0), kind);
        }
        due(20, "next stays", x.state(0, 1), 0);
        due(20, "words stay", x.count(3), 2);
        due(20, "state 2", x.change(2, 5), UNKNOWN);
        due(20, "state -1", x.change(-1, 0), UNKNOWN);
        due(20, "kind 5", x.change(0, 5), OUTSIDE);
        due(20, "kind -1", x.change(0, -1), OUTSIDE);
        due(20, "unchanged", x.state(0, 0), 4);
        due(20, "it acts so", x.act(0, 0, 2), 0b00);
    }

    private static void see() {
        TreeActs x = with("s--,s--");
        due(21, "state 2", x.see(2, 4, true), UNKNOWN);
        due(21, "state -1", x.see(-1, 0, true), UNKNOWN);
        due(21, "what 4", x.see(0, 4, true), OUTSIDE);
        due(21, "what -1", x.see(0, -1, true), OUTSIDE);
        for (int i = 1; i <= 6; i++) {
            due(21, "number " + i, x.see(i % 2, 0, true), i);
        }
        due(21, "number 7", x.see(0, 0, false), FULL);
        due(21, "what 4 when full", x.see(0, 4, false), OUTSIDE);
        due(21, "state 2 when full", x.see(2, 4, false), UNKNOWN);
        due(21, "how much", x.count(4), 6);
        due(21, "unchanged", x.state(0, 6), 22);
        due(21, "no machine", new TreeActs().see(0, 0, true), UNKNOWN);
    }

    private static void forget() {
        TreeActs x = with("s--");
        x.see(0, 0, true);
        x.see(0, 1, false);
        due(22, "two", x.forget(), 2);
        due(22, "none", x.forget(), 0);
        due(22, "sorts", x.state(0, 6), 31);
        due(22, "again", x.see(0, 2, true), 1);
    }

    private static void drawn() {
        TreeActs x = with("o--");
        // each word flips sign 0 four times: all rows stay
        due(23, "how many", x.drawn(30, 7, 1), 30);
        // the seed after nine draws, and the row of the first word, by hand
        long seed = 7;
        int row = 0;
        for (int i = 0; i < 9; i++) {
            seed = (1103515245L * seed + 12345L) % 2147483648L;
            row = (int) (seed / 65536 % 256);
        }
        due(23, "the sum of one", x.drawn(1, 7, 0), row);
        due(23, "the seed", x.drawn(1, 7, 2), seed);
        due(23, "seed 0", x.drawn(1, 0, 2) >= 0 ? 1 : 0, 1);
        due(23, "the largest seed", x.drawn(1, Integer.MAX_VALUE, 1), 1);
        due(23, "times 0", x.drawn(0, 7, 0), OUTSIDE);
        due(23, "times 31", x.drawn(31, 7, 0), OUTSIDE);
        due(23, "seed -1", x.drawn(1, -1, 0), OUTSIDE);
        due(23, "what 3", x.drawn(1, 7, 3), OUTSIDE);
        due(23, "what -1", x.drawn(1, 7, -1), OUTSIDE);
        due(23, "no machine", new TreeActs().drawn(1, 7, 0), STATE);
        due(23, "no machine, times 0", new TreeActs().drawn(0, 7, 0), OUTSIDE);
        due(23, "words stay", x.count(3), 0);
        TreeActs known = with(GRIGORCHUK);
        due(23, "sum", known.drawn(30, 5, 0), 4408);
        due(23, "stay", known.drawn(30, 5, 1), 6);
        due(23, "seed", known.drawn(30, 5, 2), 1657206879);
        due(23, "once more", known.drawn(30, 5, 0), 4408);
    }

    private static void image() {
        due(24, "no machine", new TreeActs().image(), STATE);
        TreeActs x = with("s01,f1-", "a");
        due(24, "two", x.image(), 2);
        x.change(0, 4);
        due(24, "the latest", x.image(), 2);
        x.change(0, 2);
        x.restore();
        due(24, "the latest is kept", x.state(0, 0), 4);
    }

    private static void restore() {
        due(25, "none", new TreeActs().restore(), STATE);
        TreeActs x = with("s01,f1-", "aB", "b");
        due(25, "none was kept", x.restore(), STATE);
        x.see(1, 0, true);
        x.image();
        long before = x.digest();
        x.change(0, 4);
        x.aim(1, 1, 0);
        x.aim(0, 0, NONE);
        x.times(0, 0, 2);
        x.undo(0, 1);
        x.see(0, 3, false);
        x.forget();
        x.see(0, 2, true);
        due(25, "two", x.restore(), 2);
        due(25, "all is as it was", x.digest(), before);
        dueText(25, x, 0, "aB");
        dueText(25, x, 1, "b");
        dueText(25, x, 2, "");
        due(25, "sorts", x.state(1, 6), 22);
        x.change(0, 3);
        due(25, "once more", x.restore(), 2);
        due(25, "as it was", x.state(0, 0), 0);
        type(x, "s--");
        due(25, "restored", x.restore(), 2);
        due(25, "the page is not kept", x.count(5), 3);
        x.machine();
        due(25, "another machine", x.restore(), STATE);
        due(25, "reads", x.count(6), 2);
        x.image();
        due(25, "its own", x.restore(), 1);
        due(25, "reads are not kept", x.count(6), 2);
        type(x, "x");
        x.machine();
        due(25, "a machine that was refused is none", x.restore(), 1);
    }

    private static void count() {
        TreeActs x = with("f-0,w1-,s0-", "aB", "c");
        x.see(0, 0, true);
        type(x, "sss");
        int[] want = {3, 2, 2, 3, 1, 3, 1};
        for (int what = 0; what <= 6; what++) {
            due(26, "count " + what, x.count(what), want[what]);
        }
        due(26, "7", x.count(7), OUTSIDE);
        due(26, "-1", x.count(-1), OUTSIDE);
    }

    private static void digest() {
        TreeActs x = with("f-0,o00", "aB", "b");
        x.see(1, 3, true);
        type(x, "x,");
        long h = 1471;
        for (int state = 0; state < 2; state++) {
            for (int what = 0; what <= 7; what++) {
                h = 31 * h + x.state(state, what);
            }
        }
        for (int word = 0; word < 3; word++) {
            for (char letter : text(x, word).toCharArray()) {
                h = 31 * h + letter;
            }
            h = 31 * h + x.nothing(word);
            for (int length = 0; length <= 3; length++) {
                h = 31 * h + x.flips(word, length);
            }
            h = 31 * h + x.act(word, 0, 6);
            h = 31 * h + x.act(word, 5, 6);
        }
        h = 31 * h + 'x';
        h = 31 * h + ',';
        for (int what = 0; what <= 6; what++) {
            h = 31 * h + x.count(what);
        }
        due(27, "digest", x.digest(), h);
        due(27, "again", x.digest(), h);
        TreeActs none = new TreeActs();
        none.letter('q');
        // without a machine only the page and the counts: all 0 but the page's one
        long page = 31L * 1471 + 'q';
        for (int what = 0; what <= 6; what++) {
            page = 31 * page + (what == 5 ? 1 : 0);
        }
        due(27, "no machine", none.digest(), page);
    }

    /** No number may make a call fail; each object is used for less than 512 calls. */
    private static void extremeArguments() {
        int[] numbers = {Integer.MIN_VALUE, -2, -1, 0, 1, 5, 6, 12, 31, 32, 33, 64, Integer.MAX_VALUE};
        for (String machine : new String[] {"", "f-0", "w12,s02,f-1"}) {
            for (int a : numbers) {
                for (int b : numbers) {
                    TreeActs x = machine.isEmpty() ? new TreeActs() : with(machine, "aA", "aaa", "A");
                    oneAndTwo(x, a, b);
                    everyThird(x, a, b, numbers);
                    due(27, "digest, twice", x.digest(), x.digest());
                }
            }
        }
    }

    private static void oneAndTwo(TreeActs x, int a, int b) {
        x.letter(a);
        x.word(a);
        x.count(a);
        x.nothing(a);
        x.order(a);
        x.state(a, b);
        x.as(a, b);
        x.sign(a, b);
        x.flips(a, b);
        x.alike(a, b);
        x.undo(a, b);
        x.change(a, b);
        x.see(a, b, true);
    }

    private static void everyThird(TreeActs x, int a, int b, int[] numbers) {
        for (int c : numbers) {
            x.act(a, b, c);
            x.round(a, b, c);
            x.times(a, b, c);
            x.section(a, b, c);
            x.aim(a, b, c);
            x.drawn(a, b, c);
        }
    }
}
