import java.util.ArrayList;
import java.util.List;
import java.util.Map;
import java.util.Random;
import java.util.TreeMap;
import java.util.TreeSet;

/**
 * Runs of 512 calls by lot, wrong ones among them, each answer beside that of a model of the whole
 * face. Unlike ModelTest, which asks well-formed questions of many presentations, this test mixes
 * all calls in all states; its model keeps facts as the document tells them and nothing else.
 */
public final class CallsTest {
    private static final int BAD = -1;
    private static final int NONE = -2;
    private static final int RUNS = 1200;
    private static final int CALLS = 512;
    private static final int[] LETTERS = {1, -1, 2, -2, 3, -3};
    private static final int[] EDGES = {
        Integer.MIN_VALUE, -201, -200, -8, -4, -3, -2, -1, 0, 1, 2, 3, 4, 7, 8, 24, 199, 200, 201, Integer.MAX_VALUE};

    private static final String[] STATES = {"complete tables of more than two", "names unlike numbers",
        "relator() refused for ten", "subgroup() refused for five"};

    private static int wrong = 0;
    /** How often each method answered BAD and how often not, so that no kind of call goes untried. */
    private static final Map<String, int[]> answers = new TreeMap<>();
    /** How often states came up that are hard to come to by lot. */
    private static final Map<String, Integer> told = new TreeMap<>();

    public static void main(String[] args) {
        for (int seed = 0; seed < RUNS && wrong < 20; seed++) {
            new Play(seed).playAll();
        }
        for (Map.Entry<String, int[]> e : answers.entrySet()) {
            System.out.println(e.getKey() + ": " + e.getValue()[0] + " times BAD, " + e.getValue()[1] + " times not");
            boolean neverBad = e.getKey().equals("clear");
            if (e.getValue()[1] < 200 || e.getValue()[0] < 200 && !neverBad) {
                wrong++;
                System.out.println(e.getKey() + " was not tried often enough");
            }
        }
        for (String state : STATES) {
            int times = told.getOrDefault(state, 0);
            System.out.println(state + ": " + times + " times");
            if (times < 50) {
                wrong++;
                System.out.println(state + ": not often enough");
            }
        }
        System.out.println(wrong == 0 ? "every call is answered as by the model" : wrong + " differences");
        if (wrong != 0) {
            System.exit(1);
        }
    }

    /** One object and its model, and all that was called on them. */
    private static final class Play {
        private final int seed;
        private final Random lot;
        private final CosetTable table = new CosetTable();
        private final Model model = new Model();
        private final int most;
        private final boolean keeps;
        private int calls = 0;

        Play(int seed) {
            this.seed = seed;
            lot = new Random(seed);
            most = lot.nextInt(4) == 0 ? 200 : 40;
            keeps = lot.nextInt(4) == 0;
        }

        void playAll() {
            int before = wrong;
            if (keeps) {
                callBegin();
            }
            while (calls < CALLS && wrong == before) {
                switch (lot.nextInt(12)) {
                    case 0: callBegin(); break;
                    case 1: giveGroup(); break;
                    case 2: case 3: giveWord(); break;
                    case 4: callRun(lot.nextInt(6) == 0 ? anyNumber() : 1 + lot.nextInt(most)); break;
                    case 5: callLetter(lot.nextInt(3) == 0 ? anyNumber() : someLetter()); break;
                    case 6: callClear(); break;
                    default: askSome();
                }
            }
        }

        /** More of them while the table is one that has something to tell. */
        private void askSome() {
            boolean telling = model.isComplete() && model.cosets.size() > 2;
            if (telling) {
                tell(STATES[0]);
                if (model.cosets.last() >= model.cosets.size()) {
                    tell(STATES[1]);
                }
            }
            for (int i = telling ? 12 : 1; i > 0 && calls < CALLS; i--) {
                askOne();
            }
        }

        /** What is answered behind the last promised call is free. */
        private void due(String method, String with, long got, long want) {
            calls++;
            if (calls > CALLS) {
                return;
            }
            int[] counts = answers.computeIfAbsent(method, m -> new int[2]);
            counts[want == BAD ? 0 : 1]++;
            if (got != want) {
                wrong++;
                System.out.println("run " + seed + ", call " + calls + ": " + method + "(" + with + ") answered "
                        + got + ", the model says " + want);
            }
        }

        private void tell(String what) {
            told.merge(what, 1, Integer::sum);
        }

        private int anyNumber() {
            return EDGES[lot.nextInt(EDGES.length)];
        }

        private int someLetter() {
            return LETTERS[lot.nextInt(2 * model.n)];
        }

        /** A place around the end of what there is, or anything. */
        private int someCoset() {
            return lot.nextInt(8) == 0 ? anyNumber() : lot.nextInt(model.made + 2) - 1;
        }

        /** Some objects keep what they were given, so that their lists become full. */
        private void callBegin() {
            if (!keeps || calls == 0) {
                int n = lot.nextInt(3) == 0 && calls > 0 ? anyNumber() : 1 + lot.nextInt(3);
                due("begin", "" + n, table.begin(n), model.begin(n));
            }
        }

        private void callLetter(int x) {
            due("letter", "" + x, table.letter(x), model.letter(x));
        }

        private void callClear() {
            due("clear", "", table.clear(), model.clear());
        }

        private void callRun(int limit) {
            due("run", "" + limit, table.run(limit), model.run(limit));
        }

        private void callRelator() {
            if (!model.hand.isEmpty() && model.relators.size() == 10) {
                tell(STATES[2]);
            }
            due("relator", "", table.relator(), model.give(model.relators, 10));
        }

        private void callSubgroup() {
            if (!model.hand.isEmpty() && model.subgroupWords.size() == 5) {
                tell(STATES[3]);
            }
            due("subgroup", "", table.subgroup(), model.give(model.subgroupWords, 5));
        }

        private void spell(int power, int... base) {
            for (int i = 0; i < power * base.length; i++) {
                callLetter(base[i % base.length]);
            }
        }

        /** Powers of letters and of pairs of them, for words by lot alone seldom make a finite group. */
        private void giveGroup() {
            callBegin();
            for (int x = 1; x <= model.n; x++) {
                spell(2 + lot.nextInt(3), x);
                callRelator();
                for (int y = 1; y < x; y++) {
                    spell(2 + lot.nextInt(x - y == 1 ? 3 : 1), lot.nextBoolean() ? x : -x, y);
                    callRelator();
                }
            }
            if (lot.nextBoolean()) {
                callLetter(someLetter());
                callSubgroup();
            }
            callRun(1 + lot.nextInt(most));
        }

        /** With an empty word in between and one that has more letters than there is room for. */
        private void giveWord() {
            int[] base = new int[1 + lot.nextInt(4)];
            for (int i = 0; i < base.length; i++) {
                base[i] = someLetter();
            }
            spell(lot.nextInt(20) == 0 ? 25 : lot.nextInt(5), base);
            int kind = lot.nextInt(8);
            if (kind < 4) {
                callRelator();
            } else if (kind < 6) {
                callSubgroup();
            }
        }

        private void askOne() {
            int c = someCoset();
            int x = lot.nextInt(8) == 0 ? anyNumber() : someLetter();
            boolean fixed = lot.nextBoolean();
            int which = lot.nextInt(8) == 0 ? anyNumber() : lot.nextInt(10) - 1;
            switch (lot.nextInt(9)) {
                case 0: due("count", "" + which, table.count(which), model.count(which)); break;
                case 1: due("known", c + ", " + x, table.known(c, x), model.known(c, x)); break;
                case 2: due("number", "" + c, table.number(c), model.number(c)); break;
                case 3: due("entry", c + ", " + x, table.entry(c, x), model.entry(c, x)); break;
                case 4: due("move", "" + c, table.move(c), model.move(c)); break;
                case 5: due("cycles", "" + fixed, table.cycles(fixed), model.cycles(fixed)); break;
                case 6: due("order", "", table.order(), model.order()); break;
                case 7: due("resting", "", table.resting(), model.resting()); break;
                default: due("orbit", "" + c, table.orbit(c), model.orbit(c));
            }
        }
    }

    /** What the document says, with the facts c x = d kept as sets, so that there may be two for a while. */
    private static final class Model {
        private final List<int[]> relators = new ArrayList<>();
        private final List<int[]> subgroupWords = new ArrayList<>();
        private final List<Integer> hand = new ArrayList<>();
        private final TreeSet<Integer> cosets = new TreeSet<>();
        private final Map<Integer, TreeSet<Integer>> facts = new TreeMap<>();
        private int n;
        private int made;

        Model() {
            begin(1);
        }

        int begin(int count) {
            if (count < 1 || count > 3) {
                return BAD;
            }
            n = count;
            relators.clear();
            subgroupWords.clear();
            hand.clear();
            makeFirst();
            return 0;
        }

        private void makeFirst() {
            cosets.clear();
            facts.clear();
            cosets.add(0);
            made = 1;
        }

        private boolean isLetter(int x) {
            return x == 1 || x == -1 || n > 1 && (x == 2 || x == -2) || n > 2 && (x == 3 || x == -3);
        }

        int letter(int x) {
            if (!isLetter(x) || hand.size() == 24) {
                return BAD;
            }
            hand.add(x);
            return hand.size();
        }

        int clear() {
            int length = hand.size();
            hand.clear();
            return length;
        }

        int give(List<int[]> words, int limit) {
            if (hand.isEmpty() || words.size() == limit) {
                return BAD;
            }
            words.add(handWord());
            hand.clear();
            makeFirst();
            return words.size();
        }

        private int[] handWord() {
            return hand.stream().mapToInt(Integer::intValue).toArray();
        }

        int run(int limit) {
            if (limit < 1 || limit > 200) {
                return BAD;
            }
            follow();
            while (made < limit && countOpen() > 0) {
                step();
                follow();
            }
            return made;
        }

        private void step() {
            for (int c : cosets) {
                for (int i = 0; i < 2 * n; i++) {
                    if (at(c, LETTERS[i]) == NONE) {
                        cosets.add(made);
                        made++;
                        know(c, LETTERS[i], made - 1);
                        return;
                    }
                }
            }
        }

        private int at(int c, int x) {
            TreeSet<Integer> values = facts.get(c * 7 + x + 3);
            return values == null ? NONE : values.first();
        }

        private void know(int c, int x, int d) {
            facts.computeIfAbsent(c * 7 + x + 3, place -> new TreeSet<>()).add(d);
            facts.computeIfAbsent(d * 7 - x + 3, place -> new TreeSet<>()).add(c);
        }

        private void follow() {
            while (followOnce()) {
                continue;
            }
        }

        private boolean followOnce() {
            for (int c : cosets) {
                for (int[] word : relators) {
                    if (closes(word, c)) {
                        return true;
                    }
                }
            }
            for (int[] word : subgroupWords) {
                if (closes(word, 0)) {
                    return true;
                }
            }
            return false;
        }

        /** Whether the word, from c to c, said something new; all that this makes one is one then. */
        private boolean closes(int[] word, int c) {
            int p = c;
            int front = 0;
            while (front < word.length && at(p, word[front]) != NONE) {
                p = at(p, word[front]);
                front++;
            }
            int q = c;
            int back = word.length;
            while (back > front && at(q, -word[back - 1]) != NONE) {
                q = at(q, -word[back - 1]);
                back--;
            }
            if (back == front && p != q) {
                makeOne(Math.min(p, q), Math.max(p, q));
                return true;
            }
            if (back == front + 1) {
                know(p, word[front], q);
                return true;
            }
            return false;
        }

        private void makeOne(int low, int high) {
            rename(low, high);
            int[] pair = twoAnswers();
            while (pair.length > 0) {
                rename(pair[0], pair[1]);
                pair = twoAnswers();
            }
        }

        private void rename(int low, int high) {
            cosets.remove(high);
            for (TreeSet<Integer> values : facts.values()) {
                if (values.remove(high)) {
                    values.add(low);
                }
            }
            for (int x = -3; x <= 3; x++) {
                TreeSet<Integer> values = facts.remove(high * 7 + x + 3);
                if (values != null) {
                    facts.computeIfAbsent(low * 7 + x + 3, place -> new TreeSet<>()).addAll(values);
                }
            }
        }

        private int[] twoAnswers() {
            for (TreeSet<Integer> values : facts.values()) {
                if (values.size() > 1) {
                    return new int[] {values.first(), values.last()};
                }
            }
            return new int[0];
        }

        private int countOpen() {
            return cosets.size() * 2 * n - facts.size();
        }

        private boolean isComplete() {
            return countOpen() == 0;
        }

        int count(int which) {
            int[] counts = {made, cosets.size(), countOpen(), isComplete() ? 1 : 0,
                isComplete() ? cosets.size() : NONE, relators.size(), subgroupWords.size(), hand.size()};
            return which >= 0 && which < counts.length ? counts[which] : BAD;
        }

        int known(int c, int x) {
            return isLetter(x) && cosets.contains(c) ? at(c, x) : BAD;
        }

        private List<Integer> namesByNumber() {
            List<Integer> names = new ArrayList<>();
            names.add(0);
            for (int c = 0; c < names.size(); c++) {
                for (int i = 0; i < 2 * n; i++) {
                    int d = at(names.get(c), LETTERS[i]);
                    if (!names.contains(d)) {
                        names.add(d);
                    }
                }
            }
            return names;
        }

        /** BAD, for indexOf says -1 if the name is none. */
        int number(int c) {
            return isComplete() ? namesByNumber().indexOf(c) : BAD;
        }

        private boolean hasNumber(int c) {
            return isComplete() && c >= 0 && c < cosets.size();
        }

        int entry(int c, int x) {
            return hasNumber(c) && isLetter(x) ? imagesOf(x)[c] : BAD;
        }

        int move(int c) {
            return hasNumber(c) ? imagesOf(handWord())[c] : BAD;
        }

        private int[] imagesOf(int... word) {
            List<Integer> names = namesByNumber();
            int[] images = new int[names.size()];
            for (int c = 0; c < images.length; c++) {
                int d = names.get(c);
                for (int x : word) {
                    d = at(d, x);
                }
                images[c] = names.indexOf(d);
            }
            return images;
        }

        int cycles(boolean fixed) {
            if (!isComplete()) {
                return BAD;
            }
            int[] images = imagesOf(handWord());
            TreeSet<Integer> left = new TreeSet<>();
            for (int c = 0; c < images.length; c++) {
                left.add(c);
            }
            int all = 0;
            int single = 0;
            while (!left.isEmpty()) {
                int c = left.first();
                all++;
                single += images[c] == c ? 1 : 0;
                while (left.remove(c)) {
                    c = images[c];
                }
            }
            return fixed ? single : all;
        }

        /** The least power under which each coset is back, found coset by coset. */
        long order() {
            if (!isComplete()) {
                return BAD;
            }
            int[] images = imagesOf(handWord());
            long power = 1;
            for (int c = 0; c < images.length; c++) {
                int length = 1;
                for (int d = images[c]; d != c; d = images[d]) {
                    length++;
                }
                long step = power;
                while (power % length != 0) {
                    power += step;
                }
            }
            return power;
        }

        int resting() {
            if (!isComplete()) {
                return BAD;
            }
            boolean[] moved = new boolean[cosets.size()];
            int resting = cosets.size();
            for (int[] word : subgroupWords) {
                int[] images = imagesOf(word);
                for (int c = 0; c < images.length; c++) {
                    resting -= images[c] != c && !moved[c] ? 1 : 0;
                    moved[c] |= images[c] != c;
                }
            }
            return resting;
        }

        /** All that are joined carry the same mark in the end: the lowest number among them. */
        int orbit(int c) {
            if (!hasNumber(c)) {
                return BAD;
            }
            int[] marks = new int[cosets.size()];
            for (int d = 0; d < marks.length; d++) {
                marks[d] = d;
            }
            for (int[] word : subgroupWords) {
                int[] images = imagesOf(word);
                for (int d = 0; d < images.length; d++) {
                    int low = Math.min(marks[d], marks[images[d]]);
                    int high = Math.max(marks[d], marks[images[d]]);
                    for (int e = 0; e < marks.length; e++) {
                        marks[e] = marks[e] == high ? low : marks[e];
                    }
                }
            }
            return marks[c];
        }
    }
}
