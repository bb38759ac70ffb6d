import java.math.BigInteger;

/** The boundary cases that the document names for what is told of all: promises 24 to 27, and the 512 calls. */
public final class WholeBoundariesTest {
    private static final Due due = new Due();
    private static final String SIX = "s50,f4-,w-3,r22,o11,s00";

    public static void main(String[] args) {
        imageWithoutAMachine();
        imageIsTheLatest();
        imageIsNotWhatIsDoneLater();
        restoreOfNone();
        restoreWithAnotherMachineSince();
        restoreBringsAllBack();
        restoreAgain();
        restoreLeavesThePageAndTheReads();
        countOfWrongNumbers();
        countOfNone();
        countOfMost();
        countOfMachinesRead();
        digestWithoutAMachine();
        digestWrapsAround();
        digestOfThePage();
        digestChangesNothing();
        all512Calls();
        due.end();
    }

    private static int read(TreeActs x, String machine) {
        Due.type(x, machine);
        return x.machine();
    }

    // ---- promise 24

    private static void imageWithoutAMachine() {
        due.sentence(24, "STATE: no MACHINE");
        TreeActs x = new TreeActs();
        due.is("image()", x.image(), Due.STATE);
        Due.type(x, "f-0");
        due.is("image() with a page", x.image(), Due.STATE);
        due.is("restore() then", x.restore(), Due.STATE);
        due.is("machine()", x.machine(), 1);
        due.is("restore() of one that was refused", x.restore(), Due.STATE);
        for (int states = 1; states <= 6; states++) {
            due.is("image()", Due.with("s--,s--,s--,s--,s--,s--".substring(0, 4 * states - 1)).image(), states);
        }
    }

    private static void imageIsTheLatest() {
        due.sentence(24, "An IMAGE is kept (one; the latest)");
        TreeActs x = Due.with("s01,f1-", "a");
        due.is("image()", x.image(), 2);
        x.change(0, 4);
        x.see(0, 0, true);
        Due.put(x, 0, "bb");
        due.is("image() again", x.image(), 2);
        x.change(0, 2);
        x.forget();
        Due.put(x, 0, "");
        due.is("restore()", x.restore(), 2);
        due.is("KIND of the latest", x.state(0, 0), 4);
        due.is("SEEN of the latest", x.count(4), 1);
        due.wordIs(x, 0, "bb");
        due.is("restore() does not go to the one ahead of it", x.restore(), 2);
        due.is("KIND of the latest", x.state(0, 0), 4);
    }

    private static void imageIsNotWhatIsDoneLater() {
        due.sentence(24, "An IMAGE keeps the MACHINE, the WORDS, SEEN");
        TreeActs x = Due.with(SIX, "abC", "F", "");
        x.see(1, 0, true);
        long before = x.digest();
        due.is("image()", x.image(), 6);
        due.is("image() changes nothing", x.digest(), before);
        for (int i = 0; i < 3; i++) {
            for (int state = 0; state < 6; state++) {
                x.change(state, (x.state(state, 0) + 1) % 5);
                x.aim(state, 0, state);
                x.aim(state, 1, Due.NONE);
            }
            x.times(0, 1, 2);
            x.undo(0, 1);
            x.section(2, 1, 0);
            x.see(4, 3, false);
            due.is("restore()", x.restore(), 6);
            due.is("all is as it was", x.digest(), before);
        }
    }

    // ---- promise 25

    private static void restoreOfNone() {
        due.sentence(25, "STATE: none was kept");
        due.is("restore() of a new object", new TreeActs().restore(), Due.STATE);
        TreeActs x = Due.with("s01,f1-", "a", "bB", "B");
        x.see(0, 0, true);
        long before = x.digest();
        due.is("restore()", x.restore(), Due.STATE);
        due.is("nothing is changed", x.digest(), before);
    }

    private static void restoreWithAnotherMachineSince() {
        due.sentence(25, "STATE: .. or there is another MACHINE since");
        TreeActs x = Due.with("s01,f1-", "a");
        x.image();
        read(x, "o--,r--,r--");
        long before = x.digest();
        due.is("restore()", x.restore(), Due.STATE);
        due.is("nothing is changed", x.digest(), before);
        read(x, "s01,f1-");
        due.is("restore() with a like one", x.restore(), Due.STATE);
        due.is("image()", x.image(), 2);
        due.is("restore() then", x.restore(), 2);
        read(x, "s01,f1-");
        due.is("restore() with one of the same text", x.restore(), Due.STATE);
        x.image();
        Due.type(x, "s01,x");
        due.is("machine() that is none", x.machine(), Due.STATE);
        due.is("is no other one", x.restore(), 2);
        x.blank();
        due.is("machine() of an empty page", x.machine(), Due.STATE);
        due.is("is no other one", x.restore(), 2);
        x.change(0, 3);
        x.aim(0, 0, Due.NONE);
        due.is("a changed one is no other one", x.restore(), 2);
    }

    private static void restoreBringsAllBack() {
        due.sentence(25, "It goes on from the IMAGE: how many STATES");
        TreeActs x = Due.with("s01,f1-", "aB", "b");
        Due.putLong(x, 2, 0, "abababababababab");
        Due.put(x, 0, "aB");
        x.see(0, 1, true);
        x.see(1, 0, true);
        x.image();
        for (int word = 0; word < 3; word++) {
            Due.put(x, word, "");
        }
        x.forget();
        for (int i = 0; i < 6; i++) {
            x.see(0, 3, true);
        }
        due.is("restore()", x.restore(), 2);
        due.wordIs(x, 0, "aB");
        due.wordIs(x, 1, "b");
        due.wordIs(x, 2, "abababababababab");
        due.is("SEEN", x.count(4), 2);
        due.is("SORTS of 0", x.state(0, 6), 7);
        due.is("SORTS of 1", x.state(1, 6), 22);
        due.is("see() number 3", x.see(1, 1, true), 3);
        due.is("SORTS of 1", x.state(1, 6), 6);
        // one kept while all was empty brings all back to empty
        TreeActs empty = Due.with("s01,f1-");
        empty.image();
        Due.put(empty, 0, "ab");
        Due.put(empty, 2, "B");
        empty.see(0, 0, true);
        empty.restore();
        due.is("LETTERS", empty.count(3), 0);
        due.is("SEEN", empty.count(4), 0);
        due.is("SORTS", empty.state(0, 6), 31);
    }

    private static void restoreAgain() {
        due.sentence(25, "It goes on from the IMAGE: also more than once");
        TreeActs x = Due.with("s01,f1-", "aB");
        x.see(0, 0, true);
        x.image();
        long before = x.digest();
        for (int i = 0; i < 4; i++) {
            x.change(i % 2, 4);
            x.aim(1 - i % 2, i % 2, 0);
            x.times(0, 0, 0);
            x.see(0, 1, false);
            due.is("restore()", x.restore(), 2);
            due.is("all is as it was", x.digest(), before);
        }
        due.is("restore() with nothing done", x.restore(), 2);
        due.is("all is as it was", x.digest(), before);
    }

    private static void restoreLeavesThePageAndTheReads() {
        due.sentence(25, "An IMAGE keeps the MACHINE, the WORDS, SEEN: and no more");
        TreeActs x = Due.with("s01,f1-");
        read(x, "f-0");
        Due.type(x, "ab");
        x.image();
        Due.type(x, "cd");
        x.restore();
        due.is("letters of the page", x.count(5), 4);
        due.is("MACHINES read", x.count(6), 2);
        x.blank();
        x.restore();
        due.is("letters of the page", x.count(5), 0);
    }

    // ---- promise 26

    private static void countOfWrongNumbers() {
        due.sentence(26, "count(): OUTSIDE");
        for (TreeActs x : new TreeActs[] {new TreeActs(), Due.with("f-0", "a")}) {
            for (int what : new int[] {Due.LEAST, -2, -1, 7, 8, 256, Due.MOST}) {
                due.is("count(" + what + ")", x.count(what), Due.OUTSIDE);
            }
            for (int what = 0; what <= 6; what++) {
                due.holds("count(" + what + ") is told", x.count(what) >= 0);
            }
        }
    }

    private static void countOfNone() {
        due.sentence(26, "How many: none");
        TreeActs x = new TreeActs();
        for (int what = 0; what <= 6; what++) {
            due.is("count(" + what + ")", x.count(what), 0);
        }
        TreeActs one = Due.with("r--");
        int[] want = {1, 1, 0, 0, 0, 0, 1};
        for (int what = 0; what <= 6; what++) {
            due.is("count(" + what + ")", one.count(what), want[what]);
        }
    }

    private static void countOfMost() {
        due.sentence(26, "How many: as many as can be");
        TreeActs x = Due.with("s1-,s2-,s3-,s4-,s5-,f0-");
        Due.putLong(x, 0, 1, "abcdefabcdefabcd");
        x.times(2, 0, 1);
        x.undo(0, 2);
        for (int i = 0; i < 9; i++) {
            x.see(i % 6, 0, true);
        }
        Due.type(x, "aaaaaaaaaaaaaaaaaaaaaaaaaaaaa");
        int[] want = {6, 6, 6, 48, 6, 24, 1};
        for (int what = 0; what <= 6; what++) {
            due.is("count(" + what + ")", x.count(what), want[what]);
        }
    }

    private static void countOfMachinesRead() {
        due.sentence(26, "6 how often a MACHINE was read");
        TreeActs x = new TreeActs();
        for (int i = 1; i <= 40; i++) {
            read(x, i % 2 == 0 ? "f-0" : "s01,o--");
            due.is("count(6)", x.count(6), i);
            x.image();
            x.restore();
            x.machine();
        }
        due.is("count(6), with as many refused", x.count(6), 40);
    }

    // ---- promise 27

    private static BigInteger and(BigInteger h, long number) {
        return h.multiply(BigInteger.valueOf(31)).add(BigInteger.valueOf(number));
    }

    /** The digest without any wrap-around, by what the other calls tell. */
    private static BigInteger dueDigest(TreeActs x, String page) {
        BigInteger h = BigInteger.valueOf(1471);
        for (int state = 0; state < x.count(0); state++) {
            for (int what = 0; what <= 7; what++) {
                h = and(h, x.state(state, what));
            }
        }
        for (int word = 0; word < 3 && x.count(0) > 0; word++) {
            for (char letter : Due.textOf(x, word).toCharArray()) {
                h = and(h, letter);
            }
            h = and(h, x.nothing(word));
            for (int length = 0; length <= 3; length++) {
                h = and(h, x.flips(word, length));
            }
            h = and(h, x.act(word, 0, 6));
            h = and(h, x.act(word, 5, 6));
        }
        for (char letter : page.toCharArray()) {
            h = and(h, letter);
        }
        for (int what = 0; what <= 6; what++) {
            h = and(h, x.count(what));
        }
        return h;
    }

    private static void digestWithoutAMachine() {
        due.sentence(27, "of each STATE ..; with a MACHINE of each WORD ..");
        // 31 times 31 .. seven times, of 1471: nothing but the counts, all 0
        due.is("digest() of a new object", new TreeActs().digest(), 1471L * 27512614111L);
        TreeActs x = new TreeActs();
        x.letter(1);
        due.is("digest() with a letter", x.digest(), dueDigest(x, "\u0001").longValue());
        x.blank();
        due.is("digest() with none again", x.digest(), 1471L * 27512614111L);
    }

    private static void digestWrapsAround() {
        due.sentence(27, "31 times h, and it (as longs, wrapping)");
        TreeActs x = Due.with(SIX, "abC", "dF");
        Due.putLong(x, 2, 1, "abcdefABCDEFabcd");
        x.see(1, 0, true);
        BigInteger whole = dueDigest(x, "");
        due.holds("it is far above what a long holds", whole.bitLength() > 128);
        due.is("digest()", x.digest(), whole.longValue());
        TreeActs untold = Due.with("s12,s23,s03,s2-", "aDC", "", "aDC");
        due.is("nothing() of the first one", untold.nothing(0), Due.NONE);
        due.is("digest() of what is not told", untold.digest(), dueDigest(untold, "").longValue());
        TreeActs none = Due.with("s--");
        none.see(0, 2, true);
        none.see(0, 2, false);
        due.is("digest() of NONE to ask", none.digest(), dueDigest(none, "").longValue());
    }

    private static void digestOfThePage() {
        due.sentence(27, "letters of THE PAGE");
        String page = "\u0001\u007ezyxwvutsrqponmlkjihgfe";
        for (int letters = 0; letters <= 24; letters++) {
            TreeActs without = new TreeActs();
            Due.type(without, page.substring(0, letters));
            BigInteger whole = dueDigest(without, page.substring(0, letters));
            due.is("digest() of " + letters, without.digest(), whole.longValue());
            TreeActs x = Due.with("f-0,o--", "aB");
            Due.type(x, page.substring(0, letters));
            due.is("digest() of " + letters, x.digest(), dueDigest(x, page.substring(0, letters)).longValue());
        }
    }

    private static void digestChangesNothing() {
        due.sentence(27, "digest() tells alone");
        TreeActs x = Due.with(Due.GRIGORCHUK, "abac", "d", "AD");
        long first = x.digest();
        for (int i = 0; i < 5; i++) {
            due.is("digest() again", x.digest(), first);
        }
        due.wordIs(x, 0, "abac");
        due.is("digest() of a like object", Due.with(Due.GRIGORCHUK, "abac", "d", "AD").digest(), first);
    }

    // ---- 512 calls

    private static void all512Calls() {
        due.sentence(26, "An object is used for at most 512 calls after it has been made");
        TreeActs reads = new TreeActs();
        for (int i = 0; i < 127; i++) {
            read(reads, "f-0");
        }
        reads.letter('a');
        due.is("word(), call 510", reads.word(2), 1);
        due.is("count(6), call 511", reads.count(6), 127);
        due.is("act(), call 512", reads.act(2, 4095, 12), 0);
        TreeActs letters = new TreeActs();
        for (int i = 1; i <= 511; i++) {
            due.is("letter(), call " + i, letters.letter(126), i <= 24 ? i : Due.FULL);
        }
        due.is("blank(), call 512", letters.blank(), 24);
        TreeActs images = Due.with("f-0", "aa");
        for (int i = 8; i <= 510; i += 2) {
            images.image();
            due.is("restore(), call " + (i + 1), images.restore(), 1);
        }
        TreeActs orders = Due.with(Due.GRIGORCHUK, "ac");
        for (int i = 20; i <= 511; i++) {
            due.is("order(), call " + i, orders.order(0), 8);
        }
        due.is("round(), call 512", orders.round(0, 0, 8), 8);
        TreeActs seen = Due.with("s--");
        for (int i = 5; i <= 511; i += 3) {
            seen.see(0, 0, true);
            seen.see(0, 0, false);
            due.is("forget(), call " + (i + 2), seen.forget(), 2);
        }
    }
}
