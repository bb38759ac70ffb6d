/**
 * What the tests of boundaries share: the sentence of the document that is looked at, the answers that are due,
 * and objects to begin with.
 */
final class Due {
    static final int NONE = -1, UNKNOWN = -101, OUTSIDE = -102, STATE = -103, FULL = -104;
    static final int LEAST = Integer.MIN_VALUE, MOST = Integer.MAX_VALUE;
    /** Adds one to a number whose lowest sign comes first. */
    static final String ODOMETER = "f-0";
    /** b, c and d are of order 2, as is a; bcd does nothing. */
    static final String GRIGORCHUK = "o--,s02,s03,s-1";

    private int promise = 0;
    private String sentence = "";
    private int sentences = 0;
    private int answers = 0;
    private int wrong = 0;

    /** All that is asked behind this belongs to that sentence of the document. */
    void sentence(int ofPromise, String words) {
        promise = ofPromise;
        sentence = words;
        sentences++;
    }

    void is(String call, long got, long want) {
        answers++;
        if (got != want) {
            tellWrong(call, "" + got, "" + want);
        }
    }

    void holds(String what, boolean does) {
        answers++;
        if (!does) {
            tellWrong(what, "no", "yes");
        }
    }

    void wordIs(TreeActs x, int word, String want) {
        answers++;
        String got = textOf(x, word);
        if (!got.equals(want)) {
            tellWrong("the letters of word " + word, "\"" + got + "\"", "\"" + want + "\"");
        }
    }

    private void tellWrong(String call, String got, String want) {
        wrong++;
        if (wrong <= 40) {
            System.out.println("promise " + promise + " (" + sentence + "): " + call + " answered " + got
                + ", due is " + want);
        }
    }

    void end() {
        System.out.println(sentences + " sentences, " + answers + " answers, " + wrong + " not as due");
        if (wrong != 0) {
            System.exit(1);
        }
    }

    static void type(TreeActs x, String text) {
        for (int i = 0; i < text.length(); i++) {
            x.letter(text.charAt(i));
        }
    }

    /** A new object with a machine and words of eight letters at most; a machine that is "" is none. */
    static TreeActs with(String machine, String... words) {
        TreeActs x = new TreeActs();
        if (!machine.isEmpty()) {
            type(x, machine);
            x.machine();
        }
        for (int i = 0; i < words.length; i++) {
            put(x, i, words[i]);
        }
        return x;
    }

    static int put(TreeActs x, int word, String text) {
        type(x, text);
        return x.word(word);
    }

    /** A word of nine to sixteen letters; the spare word is another one then. */
    static int putLong(TreeActs x, int word, int spare, String text) {
        put(x, word, text.substring(0, 8));
        put(x, spare, text.substring(8));
        return x.times(word, spare, word);
    }

    static String textOf(TreeActs x, int word) {
        StringBuilder letters = new StringBuilder();
        for (int place = 0; place <= 16 && x.sign(word, place) >= 0; place++) {
            letters.append((char) x.sign(word, place));
        }
        return letters.toString();
    }

    static int statesOf(String machine) {
        return (machine.length() + 1) / 4;
    }
}
