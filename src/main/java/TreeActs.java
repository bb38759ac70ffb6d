/** Machines of a few states that change rows of two signs, and what words of their states do. */
public final class TreeActs {
    public static final int NONE = -1, UNKNOWN = -101, OUTSIDE = -102, STATE = -103, FULL = -104;

    private static final int PLAIN = 0, FLIP = 1, TWIST = 2, STILL = 3, ONCE = 4;
    private static final int KINDS = 5;
    private static final String KIND_LETTERS = "sfwro";

    private static final int STATES_MOST = 6;
    /** Six states of three letters, five commas between them. */
    private static final int MACHINE_LETTERS_MOST = 23;
    private static final int PAGE_MOST = 24;
    private static final int CODE_MOST = 126;

    private static final int WORDS = 3;
    private static final int READ_WORD_MOST = 8;
    private static final int WORD_MOST = 16;
    private static final int ORDER_MOST = 8;
    /** The longest word that is ever looked at: the longest kept one, done as often as an order may be. */
    private static final int LONG_WORD_MOST = WORD_MOST * ORDER_MOST;

    private static final int SEARCH_MOST = 40;
    private static final int LETTERS_IN_A_LONG = 16;
    private static final int LONGS_OF_A_WORD = LONG_WORD_MOST / LETTERS_IN_A_LONG;

    private static final int ACT_LENGTH_MOST = 12;
    private static final int FLIPS_LENGTH_MOST = 4;
    private static final int ROUND_LENGTH_MOST = 8;

    private static final int SEEN_MOST = 6;
    private static final int QUESTIONS = 4;
    private static final int ALL_SORTS = 31;
    /** For each question the kinds, as bits, of which the answer is yes. */
    private static final int[] SORTS_OF_YES = {22, 7, 4, 24};

    private static final int DRAWN_MOST = 30;
    private static final int DRAWN_LETTERS = 4;
    private static final int DRAWN_LENGTH = 8;

    private static final int STATE_TELLS = 8;
    private static final int COUNT_TELLS = 7;
    private static final int DRAWN_TELLS = 3;

    private final Page page;
    private final Plan plan;
    private final Plan keptPlan;
    private final Letters[] words;
    private final Letters[] keptWords;
    private final Seen seen;
    private final Seen keptSeen;
    private final Search search;
    private final Letters scratch;
    private final Draws draws;
    private boolean kept;
    private int machinesRead;

    public TreeActs() {
        page = new Page();
        plan = new Plan();
        keptPlan = new Plan();
        words = new Letters[WORDS];
        keptWords = new Letters[WORDS];
        for (int i = 0; i < WORDS; i++) {
            words[i] = new Letters(WORD_MOST);
            keptWords[i] = new Letters(WORD_MOST);
        }
        seen = new Seen();
        keptSeen = new Seen();
        search = new Search();
        scratch = new Letters(LONG_WORD_MOST);
        draws = new Draws();
        kept = false;
        machinesRead = 0;
    }

    // ---- texts

    public int letter(int code) {
        if (code < 1 || code > CODE_MOST) {
            return OUTSIDE;
        }
        return page.put(code) ? page.size() : FULL;
    }

    public int blank() {
        int had = page.size();
        page.clear();
        return had;
    }

    public int fault() {
        return page.firstFault();
    }

    public int machine() {
        if (!page.isMachine()) {
            return STATE;
        }
        plan.readFrom(page);
        page.clear();
        for (int i = 0; i < WORDS; i++) {
            words[i].clear();
        }
        seen.clear();
        kept = false;
        machinesRead++;
        return plan.size();
    }

    public int word(int word) {
        if (!isActing(word)) {
            return UNKNOWN;
        }
        if (!isWordOnPage()) {
            return STATE;
        }
        Letters read = words[word];
        read.clear();
        for (int i = 0; i < page.size(); i++) {
            read.addReduced(letterOfCode(page.codeAt(i)));
        }
        page.clear();
        return read.size();
    }

    // ---- the machine

    public int state(int state, int what) {
        if (!plan.has(state)) {
            return UNKNOWN;
        }
        switch (what) {
            case 0:
                return plan.kindOf(state);
            case 1:
                return plan.toldNext(state, 0);
            case 2:
                return plan.toldNext(state, 1);
            case 3:
                return plan.reachOf(state);
            case 4:
                return plan.isInCore(state) ? 1 : 0;
            case 5:
                return plan.leastAlike(state);
            case 6:
                return seen.sortsOf(state);
            case 7:
                return bestQuestion(seen.sortsOf(state));
            default:
                return OUTSIDE;
        }
    }

    public int as(int state, int kind) {
        if (!plan.has(state)) {
            return UNKNOWN;
        }
        if (!isKind(kind)) {
            return OUTSIDE;
        }
        int own = plan.kindOf(state);
        boolean isSuch = own == kind || kind == PLAIN || (own == TWIST && kind == FLIP);
        return isSuch ? state : NONE;
    }

    // ---- what words do

    public int sign(int word, int place) {
        if (!isWord(word) || place < 0 || place >= words[word].size()) {
            return UNKNOWN;
        }
        return codeOfLetter(words[word].at(place));
    }

    public int act(int word, int row, int length) {
        if (!isActing(word)) {
            return UNKNOWN;
        }
        if (!isRow(row, length, ACT_LENGTH_MOST)) {
            return OUTSIDE;
        }
        return plan.rowAfterWord(words[word], row, length);
    }

    public int flips(int word, int length) {
        if (!isActing(word)) {
            return UNKNOWN;
        }
        if (length < 0 || length > FLIPS_LENGTH_MOST) {
            return OUTSIDE;
        }
        int bits = 0;
        for (int row = 0; row < (1 << length); row++) {
            // the sign behind the row is asked as a 0: it flips or not, whatever it is
            int after = plan.rowAfterWord(words[word], row << 1, length + 1);
            bits |= (after & 1) << row;
        }
        return bits;
    }

    public int round(int word, int row, int length) {
        if (!isActing(word)) {
            return UNKNOWN;
        }
        if (!isRow(row, length, ROUND_LENGTH_MOST)) {
            return OUTSIDE;
        }
        int now = row;
        // a word only moves the rows of a length about, so it comes back within as many steps as there are rows
        for (int done = 1; done <= (1 << ROUND_LENGTH_MOST); done++) {
            now = plan.rowAfterWord(words[word], now, length);
            if (now == row) {
                return done;
            }
        }
        return NONE;
    }

    public int nothing(int word) {
        return isActing(word) ? search.tellNothing(plan, words[word]) : UNKNOWN;
    }

    public int alike(int one, int other) {
        if (!isActing(one) || !isActing(other)) {
            return UNKNOWN;
        }
        scratch.copyFrom(words[one]);
        scratch.addUndone(words[other]);
        return search.tellNothing(plan, scratch);
    }

    public int order(int word) {
        if (!isActing(word)) {
            return UNKNOWN;
        }
        scratch.clear();
        for (int often = 1; often <= ORDER_MOST; often++) {
            scratch.addAll(words[word]);
            int told = search.tellNothing(plan, scratch);
            if (told == 1) {
                return often;
            }
            if (told == NONE) {
                return NONE;
            }
        }
        return NONE;
    }

    // ---- what is done

    public int times(int one, int other, int to) {
        if (!isActing(one) || !isActing(other) || !isActing(to)) {
            return UNKNOWN;
        }
        scratch.copyFrom(words[one]);
        scratch.addAll(words[other]);
        if (scratch.size() > WORD_MOST) {
            return FULL;
        }
        words[to].copyFrom(scratch);
        return scratch.size();
    }

    public int undo(int one, int to) {
        if (!isActing(one) || !isActing(to)) {
            return UNKNOWN;
        }
        scratch.clear();
        scratch.addUndone(words[one]);
        words[to].copyFrom(scratch);
        return scratch.size();
    }

    public int section(int one, int sign, int to) {
        if (!isActing(one) || !isActing(to)) {
            return UNKNOWN;
        }
        if (!isSign(sign)) {
            return OUTSIDE;
        }
        plan.putSection(words[one], sign, scratch);
        words[to].copyFrom(scratch);
        return scratch.size();
    }

    public int aim(int state, int sign, int to) {
        if (!plan.has(state) || (to != NONE && !plan.has(to))) {
            return UNKNOWN;
        }
        if (!isSign(sign)) {
            return OUTSIDE;
        }
        int was = plan.toldNext(state, sign);
        plan.setNext(state, sign, to);
        return was;
    }

    public int change(int state, int kind) {
        if (!plan.has(state)) {
            return UNKNOWN;
        }
        if (!isKind(kind)) {
            return OUTSIDE;
        }
        int was = plan.kindOf(state);
        plan.setKind(state, kind);
        return was;
    }

    // ---- what is seen

    public int see(int state, int what, boolean could) {
        if (!plan.has(state)) {
            return UNKNOWN;
        }
        if (what < 0 || what >= QUESTIONS) {
            return OUTSIDE;
        }
        if (seen.size() >= SEEN_MOST) {
            return FULL;
        }
        seen.add(state, could ? SORTS_OF_YES[what] : ALL_SORTS & ~SORTS_OF_YES[what]);
        return seen.size();
    }

    public int forget() {
        int had = seen.size();
        seen.clear();
        return had;
    }

    public int drawn(int times, int seed, int what) {
        if (times < 1 || times > DRAWN_MOST || seed < 0 || what < 0 || what >= DRAWN_TELLS) {
            return OUTSIDE;
        }
        if (plan.size() == 0) {
            return STATE;
        }
        int sum = 0;
        int staying = 0;
        draws.startAt(seed);
        for (int i = 0; i < times; i++) {
            drawWordToScratch();
            int row = draws.below(1 << DRAWN_LENGTH);
            int after = plan.rowAfterWord(scratch, row, DRAWN_LENGTH);
            sum += after;
            staying += after == row ? 1 : 0;
        }
        if (what == 0) {
            return sum;
        }
        return what == 1 ? staying : draws.seedNow();
    }

    // ---- what is told of all

    public int image() {
        if (plan.size() == 0) {
            return STATE;
        }
        keptPlan.copyFrom(plan);
        keptSeen.copyFrom(seen);
        for (int i = 0; i < WORDS; i++) {
            keptWords[i].copyFrom(words[i]);
        }
        kept = true;
        return plan.size();
    }

    public int restore() {
        if (!kept) {
            return STATE;
        }
        plan.copyFrom(keptPlan);
        seen.copyFrom(keptSeen);
        for (int i = 0; i < WORDS; i++) {
            words[i].copyFrom(keptWords[i]);
        }
        return plan.size();
    }

    public int count(int what) {
        switch (what) {
            case 0:
                return plan.size();
            case 1:
                return plan.classes();
            case 2:
                return plan.inCore();
            case 3:
                return lettersOfAllWords();
            case 4:
                return seen.size();
            case 5:
                return page.size();
            case 6:
                return machinesRead;
            default:
                return OUTSIDE;
        }
    }

    public long digest() {
        long h = 1471L;
        for (int state = 0; state < plan.size(); state++) {
            for (int what = 0; what < STATE_TELLS; what++) {
                h = 31L * h + state(state, what);
            }
        }
        if (plan.size() > 0) {
            for (int word = 0; word < WORDS; word++) {
                h = digestOfWord(h, word);
            }
        }
        for (int i = 0; i < page.size(); i++) {
            h = 31L * h + page.codeAt(i);
        }
        for (int what = 0; what < COUNT_TELLS; what++) {
            h = 31L * h + count(what);
        }
        return h;
    }

    private long digestOfWord(long start, int word) {
        long h = start;
        for (int place = 0; place < words[word].size(); place++) {
            h = 31L * h + sign(word, place);
        }
        h = 31L * h + nothing(word);
        for (int length = 0; length <= 3; length++) {
            h = 31L * h + flips(word, length);
        }
        h = 31L * h + act(word, 0, 6);
        return 31L * h + act(word, 5, 6);
    }

    private int lettersOfAllWords() {
        int sum = 0;
        for (int i = 0; i < WORDS; i++) {
            sum += words[i].size();
        }
        return sum;
    }

    private boolean isWordOnPage() {
        if (page.size() > READ_WORD_MOST) {
            return false;
        }
        for (int i = 0; i < page.size(); i++) {
            if (!plan.has(stateOf(letterOfCode(page.codeAt(i))))) {
                return false;
            }
        }
        return true;
    }

    private void drawWordToScratch() {
        scratch.clear();
        for (int i = 0; i < DRAWN_LETTERS; i++) {
            int state = draws.below(plan.size());
            boolean inverse = draws.below(2) == 1;
            scratch.addAsIs(letterOf(state, inverse));
        }
    }

    /** Whether a number names a word that can act: without a machine none can. */
    private boolean isActing(int word) {
        return isWord(word) && plan.size() > 0;
    }

    private static boolean isWord(int word) {
        return word >= 0 && word < WORDS;
    }

    private static boolean isKind(int kind) {
        return kind >= 0 && kind < KINDS;
    }

    private static boolean isSign(int sign) {
        return sign == 0 || sign == 1;
    }

    private static boolean isRow(int row, int length, int lengthMost) {
        return length >= 0 && length <= lengthMost && row >= 0 && row < (1 << length);
    }

    private static int bestQuestion(int sorts) {
        if (sorts == 0) {
            return NONE;
        }
        int best = NONE;
        int bestLeft = KINDS + 1;
        for (int question = 0; question < QUESTIONS; question++) {
            int yes = Integer.bitCount(sorts & SORTS_OF_YES[question]);
            int no = Integer.bitCount(sorts) - yes;
            int left = Math.max(yes, no);
            if (left < bestLeft) {
                best = question;
                bestLeft = left;
            }
        }
        return best;
    }

    // A letter is held as twice its state, and 1 more for the inverse: so the lowest bit undoes it.

    private static int letterOf(int state, boolean inverse) {
        return 2 * state + (inverse ? 1 : 0);
    }

    private static int stateOf(int letter) {
        return letter >> 1;
    }

    private static boolean isInverse(int letter) {
        return (letter & 1) == 1;
    }

    private static int inverseOf(int letter) {
        return letter ^ 1;
    }

    private static int codeOfLetter(int letter) {
        return (isInverse(letter) ? 'A' : 'a') + stateOf(letter);
    }

    /** NONE, whose state there is not either, for a code that no letter has. */
    private static int letterOfCode(int code) {
        if (code >= 'a' && code < 'a' + STATES_MOST) {
            return letterOf(code - 'a', false);
        }
        if (code >= 'A' && code < 'A' + STATES_MOST) {
            return letterOf(code - 'A', true);
        }
        return NONE;
    }

    /** The letters that have come and are not read yet. */
    private static final class Page {
        private final int[] codes;
        private int size;

        Page() {
            codes = new int[PAGE_MOST];
            size = 0;
        }

        int size() {
            return size;
        }

        int codeAt(int place) {
            return place >= 0 && place < size && place < codes.length ? codes[place] : NONE;
        }

        boolean put(int code) {
            if (size < 0 || size >= codes.length) {
                return false;
            }
            codes[size] = code;
            size++;
            return true;
        }

        void clear() {
            size = 0;
        }

        int firstFault() {
            for (int place = 0; place < size; place++) {
                if (!fits(place, codeAt(place))) {
                    return place;
                }
            }
            return size;
        }

        boolean isMachine() {
            if (size % 4 != 3 || firstFault() < size) {
                return false;
            }
            int states = statesTold();
            for (int state = 0; state < states; state++) {
                if (nextTold(state, 0) >= states || nextTold(state, 1) >= states) {
                    return false;
                }
            }
            return true;
        }

        int statesTold() {
            return (size + 1) / 4;
        }

        int kindTold(int state) {
            return kindOfCode(codeAt(4 * state));
        }

        int nextTold(int state, int sign) {
            int code = codeAt(4 * state + 1 + sign);
            return isDigit(code) ? code - '0' : NONE;
        }

        private static boolean fits(int place, int code) {
            if (place >= MACHINE_LETTERS_MOST) {
                return false;
            }
            switch (place % 4) {
                case 0:
                    return kindOfCode(code) != NONE;
                case 3:
                    return code == ',';
                default:
                    return code == '-' || isDigit(code);
            }
        }

        private static boolean isDigit(int code) {
            return code >= '0' && code < '0' + STATES_MOST;
        }

        private static int kindOfCode(int code) {
            for (int kind = 0; kind < KIND_LETTERS.length(); kind++) {
                if (KIND_LETTERS.charAt(kind) == code) {
                    return kind;
                }
            }
            return NONE;
        }
    }

    /** A row of letters. */
    private static final class Letters {
        private final int[] letters;
        private int size;

        Letters(int most) {
            letters = new int[Math.max(most, 0)];
            size = 0;
        }

        int size() {
            return size;
        }

        int at(int place) {
            return place >= 0 && place < size && place < letters.length ? letters[place] : NONE;
        }

        void clear() {
            size = 0;
        }

        void addAsIs(int letter) {
            if (size >= 0 && size < letters.length) {
                letters[size] = letter;
                size++;
            }
        }

        void addReduced(int letter) {
            if (size > 0 && at(size - 1) == inverseOf(letter)) {
                size--;
            } else {
                addAsIs(letter);
            }
        }

        void addAll(Letters other) {
            for (int i = 0; i < other.size; i++) {
                addReduced(other.at(i));
            }
        }

        void addUndone(Letters other) {
            for (int i = other.size - 1; i >= 0; i--) {
                addReduced(inverseOf(other.at(i)));
            }
        }

        void copyFrom(Letters other) {
            size = 0;
            for (int i = 0; i < other.size; i++) {
                addAsIs(other.at(i));
            }
        }
    }

    /** The machine: its states, and what they do. */
    private static final class Plan {
        private final int[] kinds;
        private final int[] nexts;
        /** For each state, and behind them all for none, the least one that is alike as far as is known. */
        private final int[] least;
        private final int[] finer;
        /** Never above STATES_MOST. */
        private int size;

        Plan() {
            kinds = new int[STATES_MOST];
            nexts = new int[2 * STATES_MOST];
            least = new int[STATES_MOST + 1];
            finer = new int[STATES_MOST + 1];
            size = 0;
        }

        int size() {
            return size;
        }

        boolean has(int state) {
            return state >= 0 && state < size;
        }

        void readFrom(Page page) {
            size = Math.min(page.statesTold(), STATES_MOST);
            for (int state = 0; state < size; state++) {
                setKind(state, page.kindTold(state));
                setNext(state, 0, page.nextTold(state, 0));
                setNext(state, 1, page.nextTold(state, 1));
            }
        }

        void copyFrom(Plan other) {
            size = other.size;
            System.arraycopy(other.kinds, 0, kinds, 0, STATES_MOST);
            System.arraycopy(other.nexts, 0, nexts, 0, 2 * STATES_MOST);
        }

        int kindOf(int state) {
            return has(state) ? kinds[state] : NONE;
        }

        void setKind(int state, int kind) {
            if (has(state)) {
                kinds[state] = kind;
            }
        }

        int toldNext(int state, int sign) {
            return has(state) && isSign(sign) ? nexts[2 * state + sign] : NONE;
        }

        void setNext(int state, int sign, int to) {
            if (has(state) && isSign(sign)) {
                nexts[2 * state + sign] = to;
            }
        }

        private boolean flipsFirst(int state) {
            if (state < 0 || state >= size) {
                return false;
            }
            int kind = kinds[state];
            return kind == FLIP || kind == TWIST || kind == ONCE;
        }

        /** The state that does the rest, by its kind, if the first sign was this one. */
        private int goesOn(int state, int was) {
            if (state < 0 || state >= size || was < 0 || was > 1) {
                return NONE;
            }
            int kind = kinds[state];
            if (kind == STILL || kind == ONCE) {
                return NONE;
            }
            return nexts[2 * state + (kind == TWIST ? 1 - was : was)];
        }

        int reachOf(int state) {
            int reach = nextsOf(state);
            // each round comes to one more state, or to none ever after
            for (int i = 0; i < STATES_MOST; i++) {
                for (int other = 0; other < size; other++) {
                    if ((reach >> other & 1) == 1) {
                        reach |= nextsOf(other);
                    }
                }
            }
            return reach;
        }

        private int nextsOf(int state) {
            int bits = 0;
            for (int sign = 0; sign <= 1; sign++) {
                int next = goesOn(state, sign);
                bits |= has(next) ? 1 << next : 0;
            }
            return bits;
        }

        boolean isInCore(int state) {
            return has(state) && (reachOf(state) >> state & 1) == 1;
        }

        int inCore() {
            int sum = 0;
            for (int state = 0; state < size; state++) {
                sum += isInCore(state) ? 1 : 0;
            }
            return sum;
        }

        int leastAlike(int state) {
            findAlike();
            return has(state) ? least[state] : NONE;
        }

        int classes() {
            findAlike();
            int sum = 0;
            for (int state = 0; state < size; state++) {
                sum += least[state] == state ? 1 : 0;
            }
            return sum;
        }

        /** At first all seem alike; each round parts those that flip or go on unlike, till none are parted. */
        private void findAlike() {
            for (int i = 0; i <= STATES_MOST; i++) {
                least[i] = 0;
            }
            for (int i = 0; i <= STATES_MOST; i++) {
                for (int one = 0; one <= STATES_MOST; one++) {
                    finer[one] = leastThatSeemsAlike(one);
                }
                System.arraycopy(finer, 0, least, 0, STATES_MOST + 1);
            }
        }

        private int leastThatSeemsAlike(int one) {
            for (int other = 0; other < one; other++) {
                if (flipsFirst(one) == flipsFirst(other)
                    && leastBehind(one, 0) == leastBehind(other, 0)
                    && leastBehind(one, 1) == leastBehind(other, 1)) {
                    return other;
                }
            }
            return one;
        }

        private int leastBehind(int state, int sign) {
            int next = goesOn(state, sign);
            return least[has(next) ? next : STATES_MOST];
        }

        /** The letter that does the rest behind a letter, if that finds this sign; or NONE. */
        private int letterBehind(int letter, int sign) {
            int state = stateOf(letter);
            boolean inverse = isInverse(letter);
            // an inverse finds what the state has made: what it was then, is told by whether it flips
            int was = inverse && flipsFirst(state) ? 1 - sign : sign;
            int next = goesOn(state, was);
            return next == NONE ? NONE : letterOf(next, inverse);
        }

        boolean flipsFirstSign(Letters word) {
            boolean flipped = false;
            for (int i = 0; i < word.size(); i++) {
                if (flipsFirst(stateOf(word.at(i)))) {
                    flipped = !flipped;
                }
            }
            return flipped;
        }

        void putSection(Letters word, int sign, Letters to) {
            int now = sign;
            to.clear();
            for (int i = 0; i < word.size(); i++) {
                int letter = word.at(i);
                int behind = letterBehind(letter, now);
                if (behind != NONE) {
                    to.addReduced(behind);
                }
                now = flipsFirst(stateOf(letter)) ? 1 - now : now;
            }
        }

        int rowAfterWord(Letters word, int row, int length) {
            int now = row;
            for (int i = 0; i < word.size(); i++) {
                now = rowAfterLetter(word.at(i), now, length);
            }
            return now;
        }

        private int rowAfterLetter(int letter, int row, int length) {
            int now = row;
            int acting = letter;
            for (int bit = length - 1; bit >= 0 && acting != NONE; bit--) {
                int sign = now >> bit & 1;
                now ^= flipsFirst(stateOf(acting)) ? 1 << bit : 0;
                acting = letterBehind(acting, sign);
            }
            return now;
        }
    }

    /** What is seen: how much, and of which sorts each state can still be. */
    private static final class Seen {
        private final int[] sorts;
        private int size;

        Seen() {
            sorts = new int[STATES_MOST];
            size = 0;
            for (int i = 0; i < STATES_MOST; i++) {
                sorts[i] = ALL_SORTS;
            }
        }

        int size() {
            return size;
        }

        int sortsOf(int state) {
            return state >= 0 && state < STATES_MOST ? sorts[state] : 0;
        }

        void add(int state, int sortsLeft) {
            if (state >= 0 && state < STATES_MOST) {
                sorts[state] &= sortsLeft;
                size++;
            }
        }

        void clear() {
            size = 0;
            for (int i = 0; i < STATES_MOST; i++) {
                sorts[i] = ALL_SORTS;
            }
        }

        void copyFrom(Seen other) {
            size = other.size;
            System.arraycopy(other.sorts, 0, sorts, 0, STATES_MOST);
        }
    }

    /**
     * Goes through a word, its sections, theirs, and so on. Those found are held in longs, four bits a letter
     * (0: none), since a run's room is counted by its elements.
     */
    private static final class Search {
        private final long[] found;
        private final long[] packed;
        private final Letters current;
        private final Letters behind;
        private int size;

        Search() {
            // one more than are gone through: it tells that there is another one
            found = new long[(SEARCH_MOST + 1) * LONGS_OF_A_WORD];
            packed = new long[LONGS_OF_A_WORD];
            current = new Letters(LONG_WORD_MOST);
            behind = new Letters(LONG_WORD_MOST);
            size = 0;
        }

        /** 1: the word does nothing; 0: it does something; NONE: not told. */
        int tellNothing(Plan plan, Letters word) {
            size = 0;
            find(word);
            for (int i = 0; i < SEARCH_MOST && i < size; i++) {
                unpack(i);
                if (plan.flipsFirstSign(current)) {
                    return 0;
                }
                for (int sign = 0; sign <= 1; sign++) {
                    plan.putSection(current, sign, behind);
                    find(behind);
                }
            }
            return size > SEARCH_MOST ? NONE : 1;
        }

        private void find(Letters word) {
            if (size > SEARCH_MOST) {
                return;
            }
            pack(word);
            for (int i = 0; i < size; i++) {
                if (isPackedAt(i)) {
                    return;
                }
            }
            System.arraycopy(packed, 0, found, size * LONGS_OF_A_WORD, LONGS_OF_A_WORD);
            size++;
        }

        private boolean isPackedAt(int place) {
            if (place < 0 || place > SEARCH_MOST) {
                return false;
            }
            for (int i = 0; i < LONGS_OF_A_WORD; i++) {
                if (found[place * LONGS_OF_A_WORD + i] != packed[i]) {
                    return false;
                }
            }
            return true;
        }

        private void pack(Letters word) {
            for (int i = 0; i < LONGS_OF_A_WORD; i++) {
                packed[i] = 0L;
            }
            for (int i = 0; i < word.size() && i < LONG_WORD_MOST; i++) {
                long bits = word.at(i) + 1;
                packed[i / LETTERS_IN_A_LONG] |= bits << (4 * (i % LETTERS_IN_A_LONG));
            }
        }

        private void unpack(int place) {
            current.clear();
            if (place < 0 || place > SEARCH_MOST) {
                return;
            }
            for (int i = 0; i < LONG_WORD_MOST; i++) {
                long bits = found[place * LONGS_OF_A_WORD + i / LETTERS_IN_A_LONG];
                int letter = (int) (bits >> (4 * (i % LETTERS_IN_A_LONG)) & 15L) - 1;
                if (letter == NONE) {
                    return;
                }
                current.addAsIs(letter);
            }
        }
    }

    /** Numbers by a seed. */
    private static final class Draws {
        private long seed;

        Draws() {
            seed = 0L;
        }

        void startAt(int first) {
            seed = first;
        }

        int seedNow() {
            return (int) seed;
        }

        int below(int bound) {
            seed = (1103515245L * seed + 12345L) & 2147483647L;
            return bound > 0 ? (int) (seed / 65536L % bound) : 0;
        }
    }
}
