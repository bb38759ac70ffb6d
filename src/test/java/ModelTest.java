import java.util.ArrayList;
import java.util.HashSet;
import java.util.LinkedHashSet;
import java.util.List;
import java.util.Random;
import java.util.Set;

/**
 * Runs of calls by fixed seeds, each answer against that of a slow model that holds texts and goes by the
 * document's words: an inverse is looked for among all rows, alike states are tried on all rows.
 */
public final class ModelTest {
    private static int wrong = 0;
    private static final Set<String> answers = new HashSet<>();

    public static void main(String[] args) {
        for (int run = 0; run < 700; run++) {
            oneRun(new Random(90001L + run), run);
        }
        String[] wanted = {"nothing 0", "nothing 1", "nothing -1", "alike 0", "alike 1", "alike -1", "order 1",
            "order 2", "order 4", "order 8", "order -1", "times -104", "see -104",
            "letter -104", "letter -102", "word -103", "word -101", "machine -103", "restore -103", "act -102",
            "round 1", "round 256", "aim -101", "aim -102", "change -102", "drawn -102", "as -1", "count -102"};
        for (String want : wanted) {
            if (!answers.contains(want)) {
                wrong++;
                System.out.println("no run has come to: " + want);
            }
        }
        System.out.println(wrong == 0 ? "the model and the class agree" : wrong + " answers are not as due");
        if (wrong != 0) {
            System.exit(1);
        }
    }

    private static void oneRun(Random dice, int run) {
        TreeActs real = new TreeActs();
        Model model = new Model();
        int calls = 0;
        List<String> made = new ArrayList<>();
        // a text and its call are 27 calls at most: none goes beyond an object's 512th
        while (calls < 484) {
            if (dice.nextInt(model.kinds.isEmpty() ? 3 : 40) == 0) {
                String text = machineText(dice);
                calls += type(real, model, text, dice);
                calls++;
                check(run, made, "machine", real.machine(), model.machine());
            } else if (dice.nextInt(5) == 0) {
                String text = wordText(dice, model.kinds.length());
                calls += type(real, model, text, dice);
                int word = number(dice, 3);
                calls++;
                check(run, made, "word", real.word(word), model.word(word));
            } else {
                calls++;
                anyCall(dice, run, real, model, made);
            }
            if (wrong > 20) {
                return;
            }
        }
    }

    /** Mostly a number that is in range, now and then one that is not. */
    private static int number(Random dice, int bound) {
        int any = dice.nextInt(24);
        if (any == 0) {
            return -1;
        }
        if (any == 1) {
            return bound;
        }
        if (any == 2 && dice.nextInt(4) == 0) {
            return dice.nextBoolean() ? Integer.MIN_VALUE : Integer.MAX_VALUE;
        }
        return dice.nextInt(Math.max(1, bound));
    }

    private static String machineText(Random dice) {
        int states = 1 + dice.nextInt(6);
        StringBuilder text = new StringBuilder();
        String letters = dice.nextInt(3) == 0 ? "s" : dice.nextInt(3) == 0 ? "sfo" : "sfwro";
        for (int i = 0; i < states; i++) {
            text.append(i == 0 ? "" : ",").append(letters.charAt(dice.nextInt(letters.length())));
            for (int sign = 0; sign < 2; sign++) {
                int next = dice.nextInt(states + 1) - 1;
                text.append(next < 0 ? "-" : "" + next);
            }
        }
        if (dice.nextInt(8) == 0) {
            text.setCharAt(dice.nextInt(text.length()), "sfwro012345-,6xS"
                .charAt(dice.nextInt(16)));
        }
        if (dice.nextInt(12) == 0) {
            text.append(dice.nextBoolean() ? "," : "s");
        }
        return text.toString();
    }

    private static String wordText(Random dice, int states) {
        StringBuilder text = new StringBuilder();
        int length = dice.nextInt(dice.nextInt(6) == 0 ? 11 : 9);
        for (int i = 0; i < length; i++) {
            int state = dice.nextInt(30) == 0 ? 5 : dice.nextInt(Math.max(1, states));
            text.append((char) ((dice.nextBoolean() ? 'a' : 'A') + state));
        }
        if (dice.nextInt(20) == 0) {
            text.append(dice.nextBoolean() ? 'g' : 'G');
        }
        return text.toString();
    }

    private static int type(TreeActs real, Model model, String text, Random dice) {
        if (dice.nextInt(10) != 0) {
            real.blank();
            model.blank();
        }
        for (int i = 0; i < text.length(); i++) {
            real.letter(text.charAt(i));
            model.letter(text.charAt(i));
        }
        return text.length() + 1;
    }

    private static void anyCall(Random dice, int run, TreeActs real, Model model, List<String> made) {
        int states = model.kinds.length();
        int which = dice.nextInt(26);
        int a = number(dice, 3);
        int b = number(dice, 3);
        int c = number(dice, 3);
        int s = number(dice, states);
        switch (which) {
            case 0: {
                int code = dice.nextInt(3) == 0 ? number(dice, 127) : "sfwro012345-,abAB".charAt(dice.nextInt(17));
                check(run, made, "letter", real.letter(code), model.letter(code));
                break;
            }
            case 1:
                if (dice.nextInt(3) == 0) {
                    check(run, made, "blank", real.blank(), model.blank());
                }
                break;
            case 2: check(run, made, "fault", real.fault(), model.fault()); break;
            case 3: {
                int what = number(dice, 8);
                check(run, made, "state", real.state(s, what), model.state(s, what));
                break;
            }
            case 4: {
                int kind = number(dice, 5);
                check(run, made, "as", real.as(s, kind), model.as(s, kind));
                break;
            }
            case 5: {
                int place = number(dice, 17);
                check(run, made, "sign", real.sign(a, place), model.sign(a, place));
                break;
            }
            case 6: {
                int length = number(dice, 13);
                int row = number(dice, length < 0 || length > 12 ? 4 : 1 << length);
                check(run, made, "act", real.act(a, row, length), model.act(a, row, length));
                break;
            }
            case 7: {
                int length = number(dice, 5);
                check(run, made, "flips", real.flips(a, length), model.flips(a, length));
                break;
            }
            case 8: {
                int length = number(dice, 9);
                int row = number(dice, length < 0 || length > 8 ? 4 : 1 << length);
                check(run, made, "round", real.round(a, row, length), model.round(a, row, length));
                break;
            }
            case 9: check(run, made, "nothing", real.nothing(a), model.nothing(a)); break;
            case 10: check(run, made, "alike", real.alike(a, b), model.alike(a, b)); break;
            case 11: check(run, made, "order", real.order(a), model.order(a)); break;
            case 12:
            case 13: check(run, made, "times", real.times(a, b, c), model.times(a, b, c)); break;
            case 14: check(run, made, "undo", real.undo(a, b), model.undo(a, b)); break;
            case 15: {
                int sign = number(dice, 2);
                check(run, made, "section", real.section(a, sign, b), model.section(a, sign, b));
                break;
            }
            case 16: {
                int sign = number(dice, 2);
                int to = dice.nextInt(30) == 0 ? -2 : number(dice, states);
                check(run, made, "aim", real.aim(s, sign, to), model.aim(s, sign, to));
                break;
            }
            case 17: {
                int kind = number(dice, 5);
                check(run, made, "change", real.change(s, kind), model.change(s, kind));
                break;
            }
            case 18: {
                int what = number(dice, 4);
                boolean could = dice.nextBoolean();
                check(run, made, "see", real.see(s, what, could), model.see(s, what, could));
                break;
            }
            case 19:
                if (dice.nextInt(5) == 0) {
                    check(run, made, "forget", real.forget(), model.forget());
                }
                break;
            case 20: {
                int times = number(dice, 31);
                int seed = dice.nextInt(10) == 0 ? -1 - dice.nextInt(9) : dice.nextInt() & Integer.MAX_VALUE;
                check(run, made, "drawn", real.drawn(times, seed, a), model.drawn(times, seed, a));
                break;
            }
            case 21:
                if (dice.nextInt(3) == 0) {
                    check(run, made, "image", real.image(), model.image());
                }
                break;
            case 22:
                if (dice.nextInt(3) == 0) {
                    check(run, made, "restore", real.restore(), model.restore());
                }
                break;
            case 23: {
                int what = number(dice, 7);
                check(run, made, "count", real.count(what), model.count(what));
                break;
            }
            default:
                if (dice.nextInt(6) == 0) {
                    check(run, made, "digest", real.digest(), model.digest());
                }
                break;
        }
    }

    private static void check(int run, List<String> made, String call, long got, long want) {
        made.add(call);
        answers.add(call + " " + want);
        if (got != want) {
            wrong++;
            System.out.println("run " + run + " call " + made.size() + ": " + call + " answered " + got
                + ", due is " + want);
        }
    }

    /** The document, told with texts. */
    private static final class Model {
        String page = "";
        String kinds = "";
        String nexts = "";
        String[] words = {"", "", ""};
        List<int[]> seen = new ArrayList<>();
        Object[] image = null;
        int reads = 0;

        int letter(int code) {
            if (code < 1 || code > 126) {
                return -102;
            }
            if (page.length() == 24) {
                return -104;
            }
            page += (char) code;
            return page.length();
        }

        int blank() {
            int had = page.length();
            page = "";
            return had;
        }

        int fault() {
            String full = "s00,s00,s00,s00,s00,s00";
            for (int i = 0; i < page.length(); i++) {
                boolean begins = i < full.length()
                    && (page.substring(0, i + 1) + full.substring(i + 1))
                    .matches("[sfwro][-0-5][-0-5](,[sfwro][-0-5][-0-5]){0,5}");
                if (!begins) {
                    return i;
                }
            }
            return page.length();
        }

        int machine() {
            if (!page.matches("[sfwro][-0-5][-0-5](,[sfwro][-0-5][-0-5]){0,5}")) {
                return -103;
            }
            String newKinds = "";
            String newNexts = "";
            for (String part : page.split(",")) {
                newKinds += part.charAt(0);
                newNexts += part.substring(1);
            }
            for (char next : newNexts.toCharArray()) {
                if (next != '-' && next - '0' >= newKinds.length()) {
                    return -103;
                }
            }
            kinds = newKinds;
            nexts = newNexts;
            words = new String[] {"", "", ""};
            seen = new ArrayList<>();
            image = null;
            reads++;
            page = "";
            return kinds.length();
        }

        boolean noWord(int word) {
            return word < 0 || word > 2 || kinds.isEmpty();
        }

        int word(int word) {
            if (noWord(word)) {
                return -101;
            }
            if (page.length() > 8) {
                return -103;
            }
            for (char letter : page.toCharArray()) {
                int state = "abcdefABCDEF".indexOf(letter);
                if (state < 0 || state % 6 >= kinds.length()) {
                    return -103;
                }
            }
            words[word] = reduced(page);
            page = "";
            return words[word].length();
        }

        static String swapped(char letter) {
            return "" + (Character.isUpperCase(letter) ? Character.toLowerCase(letter) : Character.toUpperCase(letter));
        }

        static String reduced(String word) {
            for (int i = 0; i + 1 < word.length(); i++) {
                if (swapped(word.charAt(i)).equals("" + word.charAt(i + 1))) {
                    return reduced(word.substring(0, i) + word.substring(i + 2));
                }
            }
            return word;
        }

        static String undone(String word) {
            String back = "";
            for (char letter : word.toCharArray()) {
                back = swapped(letter) + back;
            }
            return back;
        }

        boolean noState(int state) {
            return state < 0 || state >= kinds.length();
        }

        char kind(int state) {
            return kinds.charAt(state);
        }

        /** A state on a row, by the document's words. */
        String onRow(int state, String row) {
            if (row.isEmpty() || kind(state) == 'r') {
                return row;
            }
            char was = row.charAt(0);
            char is = kind(state) == 's' ? was : was == '0' ? '1' : '0';
            String others = row.substring(1);
            if (kind(state) == 'o') {
                return is + others;
            }
            char by = kind(state) == 'w' ? is : was;
            char next = nexts.charAt(2 * state + (by - '0'));
            return is + (next == '-' ? others : onRow(next - '0', others));
        }

        String letterOnRow(char letter, String row) {
            if (Character.isLowerCase(letter)) {
                return onRow(letter - 'a', row);
            }
            for (int other = 0; other < 1 << row.length(); other++) {
                if (onRow(letter - 'A', bits(other, row.length())).equals(row)) {
                    return bits(other, row.length());
                }
            }
            throw new IllegalStateException("a letter without an inverse");
        }

        String wordOnRow(String word, String row) {
            for (char letter : word.toCharArray()) {
                row = letterOnRow(letter, row);
            }
            return row;
        }

        static String bits(int row, int length) {
            String text = "";
            for (int i = length - 1; i >= 0; i--) {
                text += (row >> i & 1) == 1 ? "1" : "0";
            }
            return text;
        }

        static int number(String row) {
            return row.isEmpty() ? 0 : Integer.parseInt(row, 2);
        }

        String sectionOf(String word, char sign) {
            String behind = "";
            char now = sign;
            for (char letter : word.toCharArray()) {
                int state = Character.toLowerCase(letter) - 'a';
                boolean inverse = Character.isUpperCase(letter);
                char then = letterOnRow(letter, "" + now).charAt(0);
                char in = inverse ? then : now;
                char out = inverse ? now : then;
                char next = "ro".indexOf(kind(state)) >= 0 ? '-'
                    : nexts.charAt(2 * state + ((kind(state) == 'w' ? out : in) - '0'));
                if (next != '-') {
                    behind += (char) ((inverse ? 'A' : 'a') + (next - '0'));
                }
                now = then;
            }
            return reduced(behind);
        }

        int nothingOf(String word) {
            LinkedHashSet<String> all = new LinkedHashSet<>();
            all.add(word);
            int gone = 0;
            while (gone < all.size()) {
                if (gone == 40) {
                    return -1;
                }
                String now = new ArrayList<>(all).get(gone);
                if (wordOnRow(now, "0").equals("1")) {
                    return 0;
                }
                all.add(sectionOf(now, '0'));
                all.add(sectionOf(now, '1'));
                gone++;
            }
            return 1;
        }

        int reach(int state) {
            Set<Integer> come = new HashSet<>();
            List<Integer> open = new ArrayList<>(List.of(state));
            while (!open.isEmpty()) {
                int now = open.remove(0);
                if ("ro".indexOf(kind(now)) >= 0) {
                    continue;
                }
                for (int sign = 0; sign < 2; sign++) {
                    char next = nexts.charAt(2 * now + sign);
                    if (next != '-' && come.add(next - '0')) {
                        open.add(next - '0');
                    }
                }
            }
            int all = 0;
            for (int one : come) {
                all |= 1 << one;
            }
            return all;
        }

        boolean alikeStates(int one, int other) {
            for (int row = 0; row < 128; row++) {
                if (!onRow(one, bits(row, 7)).equals(onRow(other, bits(row, 7)))) {
                    return false;
                }
            }
            return true;
        }

        int leastAlike(int state) {
            int least = 0;
            while (!alikeStates(state, least)) {
                least++;
            }
            return least;
        }

        static boolean couldBe(int kind, int what) {
            switch (what) {
                case 0: return kind == 1 || kind == 2 || kind == 4;
                case 1: return kind == 0 || kind == 1 || kind == 2;
                case 2: return kind == 2;
                default: return kind == 3 || kind == 4;
            }
        }

        List<Integer> sorts(int state) {
            List<Integer> can = new ArrayList<>();
            for (int kind = 0; kind < 5; kind++) {
                boolean fits = true;
                for (int[] one : seen) {
                    fits &= one[0] != state || couldBe(kind, one[1]) == (one[2] == 1);
                }
                if (fits) {
                    can.add(kind);
                }
            }
            return can;
        }

        int ask(int state) {
            List<Integer> can = sorts(state);
            int best = -1;
            int bestLeft = 99;
            for (int what = 3; what >= 0 && !can.isEmpty(); what--) {
                int yes = 0;
                for (int kind : can) {
                    yes += couldBe(kind, what) ? 1 : 0;
                }
                int left = Math.max(yes, can.size() - yes);
                if (left <= bestLeft) {
                    best = what;
                    bestLeft = left;
                }
            }
            return best;
        }

        int state(int state, int what) {
            if (noState(state)) {
                return -101;
            }
            switch (what) {
                case 0: return "sfwro".indexOf(kind(state));
                case 1:
                case 2: {
                    char next = nexts.charAt(2 * state + what - 1);
                    return next == '-' ? -1 : next - '0';
                }
                case 3: return reach(state);
                case 4: return reach(state) >> state & 1;
                case 5: return leastAlike(state);
                case 6: {
                    int bits = 0;
                    for (int kind : sorts(state)) {
                        bits += 1 << kind;
                    }
                    return bits;
                }
                case 7: return ask(state);
                default: return -102;
            }
        }

        int as(int state, int kind) {
            if (noState(state)) {
                return -101;
            }
            if (kind < 0 || kind > 4) {
                return -102;
            }
            String[] such = {"sfwro", "fw", "w", "r", "o"};
            return such[kind].indexOf(kind(state)) >= 0 ? state : -1;
        }

        int sign(int word, int place) {
            if (word < 0 || word > 2 || place < 0 || place >= words[word].length()) {
                return -101;
            }
            return words[word].charAt(place);
        }

        int act(int word, int row, int length) {
            if (noWord(word)) {
                return -101;
            }
            if (length < 0 || length > 12 || row < 0 || row >= 1 << length) {
                return -102;
            }
            return number(wordOnRow(words[word], bits(row, length)));
        }

        int flips(int word, int length) {
            if (noWord(word)) {
                return -101;
            }
            if (length < 0 || length > 4) {
                return -102;
            }
            int all = 0;
            for (int row = 0; row < 1 << length; row++) {
                if (wordOnRow(words[word], bits(row, length) + "1").endsWith("0")) {
                    all += 1 << row;
                }
            }
            return all;
        }

        int round(int word, int row, int length) {
            if (noWord(word)) {
                return -101;
            }
            if (length < 0 || length > 8 || row < 0 || row >= 1 << length) {
                return -102;
            }
            String first = bits(row, length);
            String now = wordOnRow(words[word], first);
            int done = 1;
            while (!now.equals(first)) {
                now = wordOnRow(words[word], now);
                done++;
            }
            return done;
        }

        int nothing(int word) {
            return noWord(word) ? -101 : nothingOf(words[word]);
        }

        int alike(int one, int other) {
            if (noWord(one) || noWord(other)) {
                return -101;
            }
            return nothingOf(reduced(words[one] + undone(words[other])));
        }

        int order(int word) {
            if (noWord(word)) {
                return -101;
            }
            for (int often = 1; often <= 8; often++) {
                int is = nothingOf(reduced(words[word].repeat(often)));
                if (is != 0) {
                    return is == 1 ? often : -1;
                }
            }
            return -1;
        }

        int times(int one, int other, int to) {
            if (noWord(one) || noWord(other) || noWord(to)) {
                return -101;
            }
            String both = reduced(words[one] + words[other]);
            if (both.length() > 16) {
                return -104;
            }
            words[to] = both;
            return both.length();
        }

        int undo(int one, int to) {
            if (noWord(one) || noWord(to)) {
                return -101;
            }
            words[to] = undone(words[one]);
            return words[to].length();
        }

        int section(int one, int sign, int to) {
            if (noWord(one) || noWord(to)) {
                return -101;
            }
            if (sign != 0 && sign != 1) {
                return -102;
            }
            words[to] = sectionOf(words[one], (char) ('0' + sign));
            return words[to].length();
        }

        int aim(int state, int sign, int to) {
            if (noState(state) || to != -1 && noState(to)) {
                return -101;
            }
            if (sign != 0 && sign != 1) {
                return -102;
            }
            int was = state(state, 1 + sign);
            StringBuilder text = new StringBuilder(nexts);
            text.setCharAt(2 * state + sign, to == -1 ? '-' : (char) ('0' + to));
            nexts = text.toString();
            return was;
        }

        int change(int state, int kind) {
            if (noState(state)) {
                return -101;
            }
            if (kind < 0 || kind > 4) {
                return -102;
            }
            int was = state(state, 0);
            kinds = kinds.substring(0, state) + "sfwro".charAt(kind) + kinds.substring(state + 1);
            return was;
        }

        int see(int state, int what, boolean could) {
            if (noState(state)) {
                return -101;
            }
            if (what < 0 || what > 3) {
                return -102;
            }
            if (seen.size() == 6) {
                return -104;
            }
            seen.add(new int[] {state, what, could ? 1 : 0});
            return seen.size();
        }

        int forget() {
            int had = seen.size();
            seen = new ArrayList<>();
            return had;
        }

        long drawSeed;

        int draw(int of) {
            drawSeed = (1103515245L * drawSeed + 12345L) % (1L << 31);
            return (int) ((drawSeed >> 16) % of);
        }

        int drawn(int times, int seed, int what) {
            if (times < 1 || times > 30 || seed < 0 || what < 0 || what > 2) {
                return -102;
            }
            if (kinds.isEmpty()) {
                return -103;
            }
            drawSeed = seed;
            int sum = 0;
            int stay = 0;
            for (int i = 0; i < times; i++) {
                String word = "";
                for (int k = 0; k < 4; k++) {
                    int state = draw(kinds.length());
                    word += (char) ((draw(2) == 1 ? 'A' : 'a') + state);
                }
                int row = draw(256);
                int after = number(wordOnRow(word, bits(row, 8)));
                sum += after;
                stay += after == row ? 1 : 0;
            }
            return what == 0 ? sum : what == 1 ? stay : (int) drawSeed;
        }

        int image() {
            if (kinds.isEmpty()) {
                return -103;
            }
            image = new Object[] {kinds, nexts, words.clone(), new ArrayList<>(seen)};
            return kinds.length();
        }

        @SuppressWarnings("unchecked")
        int restore() {
            if (image == null) {
                return -103;
            }
            kinds = (String) image[0];
            nexts = (String) image[1];
            words = ((String[]) image[2]).clone();
            seen = new ArrayList<>((List<int[]>) image[3]);
            return kinds.length();
        }

        int count(int what) {
            int sum = 0;
            switch (what) {
                case 0: return kinds.length();
                case 1:
                    for (int i = 0; i < kinds.length(); i++) {
                        sum += leastAlike(i) == i ? 1 : 0;
                    }
                    return sum;
                case 2:
                    for (int i = 0; i < kinds.length(); i++) {
                        sum += reach(i) >> i & 1;
                    }
                    return sum;
                case 3: return words[0].length() + words[1].length() + words[2].length();
                case 4: return seen.size();
                case 5: return page.length();
                case 6: return reads;
                default: return -102;
            }
        }

        long digest() {
            List<Integer> all = new ArrayList<>();
            for (int state = 0; state < kinds.length(); state++) {
                for (int what = 0; what <= 7; what++) {
                    all.add(state(state, what));
                }
            }
            for (int word = 0; word < 3 && !kinds.isEmpty(); word++) {
                for (char letter : words[word].toCharArray()) {
                    all.add((int) letter);
                }
                all.add(nothing(word));
                for (int length = 0; length <= 3; length++) {
                    all.add(flips(word, length));
                }
                all.add(act(word, 0, 6));
                all.add(act(word, 5, 6));
            }
            for (char letter : page.toCharArray()) {
                all.add((int) letter);
            }
            for (int what = 0; what <= 6; what++) {
                all.add(count(what));
            }
            long h = 1471L;
            for (int one : all) {
                h = 31L * h + one;
            }
            return h;
        }
    }
}
