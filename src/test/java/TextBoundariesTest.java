/** The boundary cases that the document names for texts: promises 1 to 6. */
public final class TextBoundariesTest {
    private static final Due due = new Due();
    private static final String SIX = "s50,f4-,w-3,r22,o11,s00";
    private static final int[] NO_WORDS = {Due.LEAST, -2, -1, 3, 4, 256, Due.MOST};

    public static void main(String[] args) {
        atFirstThereIsNoMachine();
        atFirstThreeEmptyWords();
        objectsAreApart();
        codesTooSmallAndTooLarge();
        fullPage();
        outsideComesAheadOfFull();
        blankPages();
        blankTouchesThePageAlone();
        everyCodeAtEveryPlace();
        faultOfAnEmptyPage();
        faultOfAFullPage();
        faultIsTheFirstOne();
        faultDoesNotLookAtHowManyStates();
        faultChangesNothing();
        oneToSixStates();
        textsThatEndEarly();
        commasBetween();
        nextsThatThereAreNot();
        machineEmptiesThePage();
        anotherMachineIsGoneWithAllThatWas();
        refusedMachineChangesNothing();
        wordNumbers();
        wordWithoutAMachine();
        eightLettersAtMost();
        wordOfNone();
        lettersOfStatesThatThereAre();
        wordIsReduced();
        wordEmptiesThePage();
        refusedWordChangesNothing();
        due.end();
    }

    // ---- promise 1

    private static void atFirstThereIsNoMachine() {
        due.sentence(1, "No MACHINE");
        TreeActs x = new TreeActs();
        due.is("count(0)", x.count(0), 0);
        due.is("count(1)", x.count(1), 0);
        due.is("count(2)", x.count(2), 0);
        due.is("count(6)", x.count(6), 0);
        due.is("state(0, 0)", x.state(0, 0), Due.UNKNOWN);
        due.is("as(0, 0)", x.as(0, 0), Due.UNKNOWN);
        due.is("aim(0, 0, NONE)", x.aim(0, 0, Due.NONE), Due.UNKNOWN);
        due.is("change(0, 0)", x.change(0, 0), Due.UNKNOWN);
        due.is("see(0, 0, true)", x.see(0, 0, true), Due.UNKNOWN);
        due.is("forget()", x.forget(), 0);
        due.is("image()", x.image(), Due.STATE);
        due.is("restore()", x.restore(), Due.STATE);
        due.is("machine() of an empty page", x.machine(), Due.STATE);
        due.is("drawn(1, 0, 0)", x.drawn(1, 0, 0), Due.STATE);
    }

    private static void atFirstThreeEmptyWords() {
        due.sentence(1, "three empty WORDS (numbered from 0)");
        TreeActs x = new TreeActs();
        due.is("count(3)", x.count(3), 0);
        for (int word = 0; word < 3; word++) {
            due.is("sign(" + word + ", 0)", x.sign(word, 0), Due.UNKNOWN);
            due.is("nothing(" + word + ")", x.nothing(word), Due.UNKNOWN);
        }
        Due.type(x, "f-0");
        x.machine();
        for (int word = 0; word < 3; word++) {
            due.is("nothing(" + word + ") with a machine", x.nothing(word), 1);
            due.is("act(" + word + ", 9, 4)", x.act(word, 9, 4), 9);
        }
        due.is("nothing(3)", x.nothing(3), Due.UNKNOWN);
    }

    private static void objectsAreApart() {
        due.sentence(1, "A new object");
        TreeActs one = Due.with(SIX, "abc", "F", "e");
        one.see(5, 0, true);
        one.image();
        one.letter('x');
        TreeActs other = new TreeActs();
        for (int what = 0; what <= 6; what++) {
            due.is("count(" + what + ") of another object", other.count(what), 0);
        }
        due.is("restore() of another object", other.restore(), Due.STATE);
        Due.type(other, "o--");
        other.machine();
        due.is("the first one's states", one.count(0), 6);
        due.wordIs(one, 0, "abc");
        due.is("the first one's page", one.blank(), 1);
    }

    // ---- promise 2

    private static void codesTooSmallAndTooLarge() {
        due.sentence(2, "OUTSIDE: code (1 to 126)");
        TreeActs x = new TreeActs();
        for (int code = 1; code <= 126; code++) {
            due.is("letter(" + code + ")", x.letter(code), 1);
            x.blank();
        }
        int[] outside = {Due.LEAST, -256, -127, -1, 0, 127, 128, 255, 256, 'a' + 256, 'a' + 65536, Due.MOST};
        for (int code : outside) {
            due.is("letter(" + code + ")", x.letter(code), Due.OUTSIDE);
        }
        due.is("letters of the page", x.count(5), 0);
    }

    private static void fullPage() {
        due.sentence(2, "FULL: above 24");
        TreeActs x = new TreeActs();
        for (int i = 1; i <= 24; i++) {
            due.is("letter number " + i, x.letter(i), i);
        }
        long before = x.digest();
        due.is("letter number 25", x.letter('q'), Due.FULL);
        due.is("and once more", x.letter(126), Due.FULL);
        due.is("the page is as it was", x.digest(), before);
        due.is("count(5)", x.count(5), 24);
        x.blank();
        due.is("a letter on the empty page", x.letter(126), 1);
    }

    private static void outsideComesAheadOfFull() {
        due.sentence(2, "of several the first as told by each call");
        TreeActs x = new TreeActs();
        Due.type(x, "aaaaaaaaaaaaaaaaaaaaaaaa");
        due.is("letter(0) on a full page", x.letter(0), Due.OUTSIDE);
        due.is("letter(127) on a full page", x.letter(127), Due.OUTSIDE);
        due.is("letter(1) on a full page", x.letter(1), Due.FULL);
    }

    // ---- promise 3

    private static void blankPages() {
        due.sentence(3, "THE PAGE is empty: how many letters it had");
        for (int letters = 0; letters <= 24; letters++) {
            TreeActs x = new TreeActs();
            Due.type(x, "z".repeat(letters));
            due.is("blank() of " + letters, x.blank(), letters);
            due.is("count(5)", x.count(5), 0);
            due.is("blank() again", x.blank(), 0);
            due.is("fault()", x.fault(), 0);
        }
    }

    private static void blankTouchesThePageAlone() {
        due.sentence(3, "THE PAGE is empty");
        TreeActs x = Due.with("s01,f10", "ab", "B");
        x.see(1, 0, true);
        x.image();
        long before = x.digest();
        Due.type(x, "s--");
        x.blank();
        due.is("all else is as it was", x.digest(), before);
        due.is("the image is kept", x.restore(), 2);
    }

    // ---- promise 4

    private static void everyCodeAtEveryPlace() {
        due.sentence(4, "the first letter of THE PAGE that no MACHINE has there, behind those ahead of it");
        String[] fitting = {"sfwro", "-012345", "-012345", ","};
        for (int place = 0; place < 23; place++) {
            for (int code = 1; code <= 126; code++) {
                TreeActs x = new TreeActs();
                Due.type(x, SIX.substring(0, place));
                x.letter(code);
                boolean fits = fitting[place % 4].indexOf((char) code) >= 0;
                due.is("fault() of code " + code + " at " + place, x.fault(), fits ? place + 1 : place);
            }
        }
    }

    private static void faultOfAnEmptyPage() {
        due.sentence(4, "how many letters it has, if there is none");
        TreeActs x = new TreeActs();
        due.is("fault() of an empty page", x.fault(), 0);
        for (int letters = 1; letters <= 23; letters++) {
            x.letter(SIX.charAt(letters - 1));
            due.is("fault() of " + letters + " letters", x.fault(), letters);
        }
    }

    private static void faultOfAFullPage() {
        due.sentence(4, "The place (from 0) of the first letter of THE PAGE that no MACHINE has there");
        // six STATES and their commas are 23 letters: no MACHINE has a 24th one
        for (int code = 1; code <= 126; code++) {
            TreeActs x = new TreeActs();
            Due.type(x, SIX);
            x.letter(code);
            due.is("fault() of code " + code + " at 23", x.fault(), 23);
        }
        TreeActs earlier = new TreeActs();
        Due.type(earlier, "s50,f4-,w-3,r22,o11,s0x,");
        due.is("fault() of a full page with one at 22", earlier.fault(), 22);
    }

    private static void faultIsTheFirstOne() {
        due.sentence(4, "of the first letter");
        String[] pages = {"xyz", "s6x", "s0s,", "s00.s00", "s00,,s00", "s00,s00,q", "s00s00", "S00", "s--,F--", " s00",
            "s 00", "s00, s00"};
        int[] places = {0, 1, 2, 3, 4, 8, 3, 0, 4, 0, 1, 4};
        for (int i = 0; i < pages.length; i++) {
            TreeActs x = new TreeActs();
            Due.type(x, pages[i]);
            due.is("fault() of " + pages[i], x.fault(), places[i]);
        }
    }

    private static void faultDoesNotLookAtHowManyStates() {
        due.sentence(4, "whether there are so many STATES does not matter");
        String[] pages = {"s1", "s01", "s55", "r5-", "s00,s02", "s55,s55,s55,s55,s55"};
        for (String page : pages) {
            TreeActs x = new TreeActs();
            Due.type(x, page);
            due.is("fault() of " + page, x.fault(), page.length());
            due.is("machine() of " + page, x.machine(), Due.STATE);
        }
    }

    private static void faultChangesNothing() {
        due.sentence(4, "fault() tells alone");
        TreeActs x = Due.with("s01,f10", "ab");
        Due.type(x, "f0,x");
        long before = x.digest();
        due.is("fault()", x.fault(), 2);
        due.is("fault() again", x.fault(), 2);
        due.is("digest()", x.digest(), before);
    }

    // ---- promise 5

    private static void oneToSixStates() {
        due.sentence(5, "one to six STATES (numbered from 0) with \",\" between: how many STATES");
        for (int states = 1; states <= 6; states++) {
            TreeActs x = new TreeActs();
            Due.type(x, "r--,r--,r--,r--,r--,r--".substring(0, 4 * states - 1));
            due.is("machine() of " + states, x.machine(), states);
            due.is("count(0)", x.count(0), states);
            due.is("the first STATE", x.state(0, 0), 3);
            due.is("the last STATE", x.state(states - 1, 0), 3);
            due.is("one behind it", x.state(states, 0), Due.UNKNOWN);
        }
    }

    private static void textsThatEndEarly() {
        due.sentence(5, "STATE: it is none");
        String page = "s00,s00,s00,s00,s00,s00,";
        for (int letters = 0; letters <= 24; letters++) {
            TreeActs x = new TreeActs();
            Due.type(x, page.substring(0, letters));
            int want = letters % 4 == 3 ? (letters + 1) / 4 : Due.STATE;
            due.is("machine() of " + letters + " letters", x.machine(), want);
            due.is("letters of the page then", x.count(5), want == Due.STATE ? letters : 0);
        }
        String[] none = {"x--", "S--", "s6-", "s-6", "s--;s--", "s--,x--", "s--,s-", "s", "s-", "0--", "---", "f-0 "};
        for (String text : none) {
            TreeActs x = new TreeActs();
            Due.type(x, text);
            due.is("machine() of " + text, x.machine(), Due.STATE);
            due.is("count(0)", x.count(0), 0);
        }
    }

    private static void commasBetween() {
        due.sentence(5, "with \",\" between");
        String[] none = {",s--", "s--,", "s--,,s--", "s--s--", ",", "s,--", "s-,-", "s--,s--,", "s---s--"};
        for (String text : none) {
            TreeActs x = new TreeActs();
            Due.type(x, text);
            due.is("machine() of " + text, x.machine(), Due.STATE);
        }
    }

    private static void nextsThatThereAreNot() {
        due.sentence(5, "also: a NEXT that there is not");
        for (int states = 1; states <= 6; states++) {
            for (int place = 0; place < 4 * states - 1; place++) {
                if (place % 4 != 1 && place % 4 != 2) {
                    continue;
                }
                for (int next = 0; next <= 5; next++) {
                    StringBuilder text = new StringBuilder("o--,r--,s--,f--,w--,r--".substring(0, 4 * states - 1));
                    text.setCharAt(place, (char) ('0' + next));
                    TreeActs x = new TreeActs();
                    Due.type(x, text.toString());
                    due.is("machine() of " + text, x.machine(), next < states ? states : Due.STATE);
                }
            }
        }
    }

    private static void machineEmptiesThePage() {
        due.sentence(5, "THE PAGE is empty then");
        TreeActs x = new TreeActs();
        Due.type(x, SIX);
        x.machine();
        due.is("count(5)", x.count(5), 0);
        due.is("fault()", x.fault(), 0);
        due.is("machine() of the empty page", x.machine(), Due.STATE);
        due.is("the machine is still there", x.count(0), 6);
        due.is("letter()", x.letter('s'), 1);
    }

    private static void anotherMachineIsGoneWithAllThatWas() {
        due.sentence(5, "another one is gone, with all that was; all WORDS are empty");
        TreeActs x = Due.with(SIX, "abc", "FE", "d");
        x.see(0, 0, true);
        x.see(5, 1, false);
        x.image();
        due.is("machine()", readMachine(x, "f-0"), 1);
        due.is("STATES", x.count(0), 1);
        due.is("LETTERS", x.count(3), 0);
        due.is("SEEN", x.count(4), 0);
        due.is("MACHINES read", x.count(6), 2);
        due.is("SORTS", x.state(0, 6), 31);
        due.is("the second STATE", x.state(1, 0), Due.UNKNOWN);
        due.is("the IMAGE", x.restore(), Due.STATE);
        for (int word = 0; word < 3; word++) {
            due.is("word " + word, x.sign(word, 0), Due.UNKNOWN);
        }
        // all that it answers is what a machine would answer that is the first one, but for how often one was read
        due.is("machine()", readMachine(x, "w01,s--"), 2);
        TreeActs first = Due.with("w01,s--");
        for (int state = 0; state < 2; state++) {
            for (int what = 0; what <= 7; what++) {
                due.is("state(" + state + ", " + what + ")", x.state(state, what), first.state(state, what));
            }
        }
        due.is("drawn()", x.drawn(30, 3, 0), first.drawn(30, 3, 0));
        due.is("six SEEN again", seeSix(x), 6);
    }

    private static int readMachine(TreeActs x, String text) {
        Due.type(x, text);
        return x.machine();
    }

    private static int seeSix(TreeActs x) {
        for (int i = 0; i < 5; i++) {
            x.see(0, 0, true);
        }
        return x.see(0, 0, true);
    }

    private static void refusedMachineChangesNothing() {
        due.sentence(5, "STATE .. they change nothing");
        String[] none = {"", "s", "x--", "s--,", "s1-,s", "s0-,s--,s3-"};
        for (String text : none) {
            TreeActs x = Due.with("s01,f10", "ab", "B", "aa");
            x.see(1, 0, true);
            x.image();
            Due.type(x, text);
            long before = x.digest();
            due.is("machine() of \"" + text + "\"", x.machine(), Due.STATE);
            due.is("digest()", x.digest(), before);
            due.is("letters of the page", x.count(5), text.length());
            due.is("MACHINES read", x.count(6), 1);
            due.is("the IMAGE", x.restore(), 2);
        }
    }

    // ---- promise 6

    private static void wordNumbers() {
        due.sentence(6, "UNKNOWN: word (0 to 2)");
        TreeActs x = Due.with("s01,f10");
        for (int word = 0; word < 3; word++) {
            due.is("word(" + word + ")", Due.put(x, word, "abA".substring(0, word + 1)), word + 1);
        }
        for (int word = 0; word < 3; word++) {
            due.wordIs(x, word, "abA".substring(0, word + 1));
        }
        x.letter('a');
        for (int word : NO_WORDS) {
            due.is("word(" + word + ")", x.word(word), Due.UNKNOWN);
        }
        due.is("letters of the page", x.count(5), 1);
        due.is("LETTERS", x.count(3), 6);
        x.letter('x');
        due.is("word(3) of a page that is no WORD", x.word(3), Due.UNKNOWN);
    }

    private static void wordWithoutAMachine() {
        due.sentence(6, "or there is no MACHINE");
        TreeActs x = new TreeActs();
        due.is("word(0) of an empty page", x.word(0), Due.UNKNOWN);
        x.letter('a');
        due.is("word(0)", x.word(0), Due.UNKNOWN);
        x.letter('x');
        due.is("word(0) of a page that is no WORD", x.word(0), Due.UNKNOWN);
        due.is("word(3)", x.word(3), Due.UNKNOWN);
        due.is("letters of the page", x.count(5), 2);
    }

    private static void eightLettersAtMost() {
        due.sentence(6, "a WORD of eight LETTERS at most");
        for (int letters = 0; letters <= 24; letters++) {
            TreeActs x = Due.with(Due.ODOMETER, "aa");
            int want = letters <= 8 ? letters : Due.STATE;
            due.is("word() of " + letters, Due.put(x, 1, "a".repeat(letters)), want);
            due.is("LETTERS", x.count(3), 2 + Math.max(want, 0));
            due.is("letters of the page", x.count(5), want == Due.STATE ? letters : 0);
        }
        // they are counted as they stand on THE PAGE, ahead of being REDUCED
        TreeActs x = Due.with(Due.ODOMETER);
        due.is("word() of eight that go", Due.put(x, 0, "aAaAaAaA"), 0);
        due.is("word() of nine of which eight go", Due.put(x, 0, "aAaAaAaAa"), Due.STATE);
        x.blank();
        due.is("word() of ten that go", Due.put(x, 0, "aAaAaAaAaA"), Due.STATE);
    }

    private static void wordOfNone() {
        due.sentence(6, "(also of none)");
        TreeActs x = Due.with("s01,f10", "ab", "B");
        due.is("word(0) of an empty page", x.word(0), 0);
        due.wordIs(x, 0, "");
        due.wordIs(x, 1, "B");
        due.is("word(2) of an empty page", x.word(2), 0);
        due.is("LETTERS", x.count(3), 1);
    }

    private static void lettersOfStatesThatThereAre() {
        due.sentence(6, "of STATES that there are .. STATE: it is none");
        for (int states = 1; states <= 6; states++) {
            String machine = "r--,r--,r--,r--,r--,r--".substring(0, 4 * states - 1);
            String fitting = "abcdef".substring(0, states) + "ABCDEF".substring(0, states);
            for (int code = 1; code <= 126; code++) {
                TreeActs x = Due.with(machine, "aa");
                x.letter(code);
                boolean fits = fitting.indexOf((char) code) >= 0;
                due.is("word() of code " + code, x.word(0), fits ? 1 : Due.STATE);
                due.is("its letter", x.sign(0, 0), fits ? code : 'a');
                due.is("letters of the page", x.count(5), fits ? 0 : 1);
            }
        }
        // one that there is not at any place of eight
        for (int place = 0; place < 8; place++) {
            StringBuilder text = new StringBuilder("abABabAB");
            text.setCharAt(place, place % 2 == 0 ? 'c' : 'C');
            due.is("word() of " + text, Due.put(Due.with("s01,f10"), 0, text.toString()), Due.STATE);
        }
    }

    private static void wordIsReduced() {
        due.sentence(6, "as long as a LETTER stands right ahead of its own INVERSE (or the other way about) both are "
            + "left out");
        String[] pages = {"aA", "Aa", "fF", "Ff", "aAa", "AaA", "aaAA", "AAaa", "abBA", "ABba", "abcCBA", "aBbA", "aa",
            "AA", "ab", "aB", "abAB", "abA", "aAbB", "aAbBcCdD", "abcdDCBA", "abcddCBA", "abcdDCBa", "baAb",
            "AbBabBaa"};
        String[] left = {"", "", "", "", "a", "A", "", "", "", "", "", "", "aa",
            "AA", "ab", "aB", "abAB", "abA", "", "", "", "abcddCBA", "aa", "bb", "aa"};
        for (int i = 0; i < pages.length; i++) {
            TreeActs x = Due.with(SIX);
            due.is("word() of " + pages[i], Due.put(x, 0, pages[i]), left[i].length());
            due.wordIs(x, 0, left[i]);
        }
        for (int state = 0; state < 6; state++) {
            TreeActs x = Due.with(SIX);
            char letter = (char) ('a' + state);
            char inverse = (char) ('A' + state);
            due.is("a LETTER ahead of its INVERSE", Due.put(x, 0, "" + letter + inverse), 0);
            due.is("the other way about", Due.put(x, 0, "" + inverse + letter), 0);
            due.is("itself twice", Due.put(x, 0, "" + letter + letter), 2);
            due.is("the INVERSE twice", Due.put(x, 0, "" + inverse + inverse), 2);
        }
    }

    private static void wordEmptiesThePage() {
        due.sentence(6, "THE PAGE is empty then");
        TreeActs x = Due.with("s01,f10");
        due.is("word()", Due.put(x, 0, "ab"), 2);
        due.is("count(5)", x.count(5), 0);
        due.is("word() of the empty page", x.word(0), 0);
        due.is("word() of letters that go", Due.put(x, 0, "aA"), 0);
        due.is("count(5)", x.count(5), 0);
    }

    private static void refusedWordChangesNothing() {
        due.sentence(6, "STATE .. they change nothing");
        String[] none = {"c", "abc", "aaaaaaaaa", "aA,", "ab ", "1"};
        for (String text : none) {
            TreeActs x = Due.with("s01,f10", "ab", "B", "aa");
            x.see(1, 0, true);
            Due.type(x, text);
            long before = x.digest();
            due.is("word() of " + text, x.word(1), Due.STATE);
            due.is("digest()", x.digest(), before);
            due.wordIs(x, 1, "B");
            due.is("blank()", x.blank(), text.length());
        }
    }
}
