import java.util.ArrayDeque;
import java.util.ArrayList;
import java.util.Arrays;
import java.util.Collections;
import java.util.Deque;
import java.util.List;
import java.util.Random;

/**
 * The class beside a slow model that does what the document's terms say, word for word and in an
 * order drawn by lot, over many presentations, each of them the same in every run of this test.
 */
public final class ModelTest {
    private static final int BAD = -1;
    private static final int NONE = -2;
    private static final int[] LETTERS = {1, -1, 2, -2, 3, -3};
    private static final int PRESENTATIONS = 6000;

    private static int wrong = 0;
    private static int complete = 0;
    private static int fellTogether = 0;
    private static int joined = 0;
    private static int renamed = 0;

    public static void main(String[] args) {
        CosetTable used = new CosetTable();
        for (int seed = 0; seed < PRESENTATIONS && wrong < 20; seed++) {
            // An object that has been used for other presentations must answer like a new one.
            // This goes beyond the 512 calls that are promised; the class has no need of that limit.
            if (seed % 3 == 0) {
                used = new CosetTable();
            }
            tryPresentation(seed, used);
        }
        System.out.println(PRESENTATIONS + " presentations: " + complete + " complete with index above 1, "
                + fellTogether + " with cosets that fell together, " + joined + " with joined cosets, "
                + renamed + " with names unlike numbers");
        dueMany("complete", complete);
        dueMany("fellTogether", fellTogether);
        dueMany("joined", joined);
        dueMany("renamed", renamed);
        System.out.println(wrong == 0 ? "the class and the model agree" : wrong + " differences");
        if (wrong != 0) {
            System.exit(1);
        }
    }

    private static void dueMany(String what, int got) {
        if (got < 50) {
            due("presentations that are " + what, got, 50);
        }
    }

    private static void due(String what, long got, long want) {
        if (got != want) {
            wrong++;
            System.out.println(what + " answered " + got + ", the model says " + want);
        }
    }

    private static void tryPresentation(int seed, CosetTable t) {
        Random lot = new Random(seed);
        int n = 1 + lot.nextInt(3);
        Model model = new Model(n, lot);
        if (lot.nextBoolean()) {
            choosePowers(model, lot);
        } else {
            chooseByLot(model, lot);
        }
        t.begin(n);
        for (int i = 0; i < model.relators.size(); i++) {
            spell(t, model.relators.get(i));
            due(seed + ": relator()", t.relator(), i + 1);
        }
        for (int i = 0; i < model.subgroupWords.size(); i++) {
            spell(t, model.subgroupWords.get(i));
            due(seed + ": subgroup()", t.subgroup(), i + 1);
        }
        int most = lot.nextInt(5) == 0 ? 200 : 40;
        int rounds = 1 + lot.nextInt(2);
        for (int round = 0; round < rounds; round++) {
            int limit = 1 + lot.nextInt(most);
            String what = "presentation " + seed + ", run(" + limit + ")";
            due(what, t.run(limit), model.run(limit));
            compare(what, t, model);
        }
        if (model.isComplete()) {
            compareAction("presentation " + seed, t, model, lot);
        }
    }

    private static void chooseByLot(Model model, Random lot) {
        int longest = lot.nextInt(6) == 0 ? 24 : 8;
        int relators = lot.nextInt(8) == 0 ? 10 : lot.nextInt(6);
        for (int i = 0; i < relators; i++) {
            model.relators.add(someWord(lot, model.n, longest));
        }
        int subgroupWords = lot.nextInt(6) == 0 ? 5 : lot.nextInt(3);
        for (int i = 0; i < subgroupWords; i++) {
            model.subgroupWords.add(someWord(lot, model.n, longest));
        }
    }

    /** Groups of reflections and turns, whose subgroups mostly move the other cosets about. */
    private static void choosePowers(Model model, Random lot) {
        for (int x = 1; x <= model.n; x++) {
            model.relators.add(power(2 + lot.nextInt(2), x));
            for (int y = x + 1; y <= model.n; y++) {
                model.relators.add(power(2 + lot.nextInt(y - x == 1 ? 4 : 1), x, lot.nextBoolean() ? y : -y));
            }
        }
        for (int i = lot.nextInt(3); i > 0; i--) {
            model.subgroupWords.add(someWord(lot, model.n, 2));
        }
        if (lot.nextInt(3) == 0) {
            model.relators.add(someWord(lot, model.n, 24));
        }
    }

    private static int[] power(int power, int... base) {
        int[] word = new int[base.length * power];
        for (int i = 0; i < word.length; i++) {
            word[i] = base[i % base.length];
        }
        return word;
    }

    /** Powers of short words make finite groups, where words by lot would mostly make none. */
    private static int[] someWord(Random lot, int n, int longest) {
        int length = 1 + lot.nextInt(lot.nextBoolean() ? Math.min(3, longest) : longest);
        int[] base = new int[length];
        for (int i = 0; i < length; i++) {
            base[i] = LETTERS[lot.nextInt(2 * n)];
        }
        return power(length <= 3 ? 1 + lot.nextInt(Math.min(5, longest / length)) : 1, base);
    }

    private static void spell(CosetTable t, int[] word) {
        t.clear();
        for (int i = 0; i < word.length; i++) {
            due("letter", t.letter(word[i]), i + 1);
        }
    }

    private static void compare(String what, CosetTable t, Model model) {
        int open = 0;
        int living = 0;
        for (int c = 0; c < model.made + 1; c++) {
            boolean lives = model.lives(c);
            living += lives ? 1 : 0;
            for (int x : LETTERS) {
                boolean letter = Math.abs(x) <= model.n;
                int want = !lives || !letter ? BAD : model.known(c, x);
                open += want == NONE ? 1 : 0;
                due(what + ": known(" + c + ", " + x + ")", t.known(c, x), want);
            }
        }
        int[] counts = {model.made, living, open, open == 0 ? 1 : 0, open == 0 ? living : NONE};
        for (int i = 0; i < counts.length; i++) {
            due(what + ": count(" + i + ")", t.count(i), counts[i]);
        }
        if (open > 0) {
            due(what + ": number", t.number(0), BAD);
            due(what + ": entry", t.entry(0, 1), BAD);
            due(what + ": move", t.move(0), BAD);
            due(what + ": cycles", t.cycles(false), BAD);
            due(what + ": order", t.order(), BAD);
            due(what + ": resting", t.resting(), BAD);
            due(what + ": orbit", t.orbit(0), BAD);
        }
        fellTogether += living < model.made ? 1 : 0;
    }

    private static void compareAction(String what, CosetTable t, Model model, Random lot) {
        List<Integer> names = model.namesByNumber();
        int size = names.size();
        complete += size > 1 ? 1 : 0;
        for (int c = 0; c < model.made; c++) {
            due(what + ": number(" + c + ")", t.number(c), model.lives(c) ? names.indexOf(c) : BAD);
        }
        for (int c = 0; c < size; c++) {
            for (int x : LETTERS) {
                int want = Math.abs(x) <= model.n ? names.indexOf(model.known(names.get(c), x)) : BAD;
                due(what + ": entry(" + c + ", " + x + ")", t.entry(c, x), want);
            }
        }
        for (int i = 0; i < 3; i++) {
            int[] word = i == 0 ? new int[0] : someWord(lot, model.n, 24);
            spell(t, word);
            compareWord(what + ", word " + Arrays.toString(word), t, model.permutation(names, word));
        }
        compareSubgroup(what, t, model, names);
        renamed += names.get(size - 1) != size - 1 ? 1 : 0;
    }

    private static void compareWord(String what, CosetTable t, int[] images) {
        int size = images.length;
        int cycles = 0;
        int fixed = 0;
        for (int c = 0; c < size; c++) {
            due(what + ": move(" + c + ")", t.move(c), images[c]);
            fixed += images[c] == c ? 1 : 0;
            boolean least = true;
            for (int d = images[c]; d != c; d = images[d]) {
                least &= d > c;
            }
            cycles += least ? 1 : 0;
        }
        due(what + ": cycles(false)", t.cycles(false), cycles);
        due(what + ": cycles(true)", t.cycles(true), fixed);
        long order = 1;
        int[] power = images.clone();
        while (order < 100000 && !isIdentity(power)) {
            for (int c = 0; c < size; c++) {
                power[c] = images[power[c]];
            }
            order++;
        }
        due(what + ": order()", t.order(), order);
    }

    private static boolean isIdentity(int[] images) {
        for (int c = 0; c < images.length; c++) {
            if (images[c] != c) {
                return false;
            }
        }
        return true;
    }

    private static void compareSubgroup(String what, CosetTable t, Model model, List<Integer> names) {
        int size = names.size();
        boolean[] moved = new boolean[size];
        int[] lowest = new int[size];
        for (int c = 0; c < size; c++) {
            lowest[c] = c;
        }
        for (int round = 0; round < size; round++) {
            for (int[] word : model.subgroupWords) {
                int[] images = model.permutation(names, word);
                for (int c = 0; c < size; c++) {
                    moved[c] |= images[c] != c;
                    int low = Math.min(lowest[c], lowest[images[c]]);
                    lowest[c] = low;
                    lowest[images[c]] = low;
                }
            }
        }
        int resting = 0;
        boolean anyJoined = false;
        for (int c = 0; c < size; c++) {
            resting += moved[c] ? 0 : 1;
            anyJoined |= lowest[c] != c;
            due(what + ": orbit(" + c + ")", t.orbit(c), lowest[c]);
        }
        due(what + ": resting()", t.resting(), resting);
        due(what + ": orbit(" + size + ")", t.orbit(size), BAD);
        joined += anyJoined ? 1 : 0;
    }

    /** The table of the document's terms; entries are kept by name and letter + 3. */
    private static final class Model {
        private final int n;
        private final Random lot;
        private final List<int[]> relators = new ArrayList<>();
        private final List<int[]> subgroupWords = new ArrayList<>();
        private final int[][] next = new int[200][7];
        private final int[] leader = new int[201];
        private int made = 1;

        Model(int n, Random lot) {
            this.n = n;
            this.lot = lot;
            for (int c = 0; c < 200; c++) {
                Arrays.fill(next[c], NONE);
                leader[c] = c;
            }
        }

        boolean lives(int c) {
            return c < made && leader[c] == c;
        }

        int known(int c, int x) {
            return next[c][x + 3];
        }

        boolean isComplete() {
            return firstOpen() == null;
        }

        int run(int limit) {
            drawAll();
            int[] open = firstOpen();
            while (open != null && made < limit) {
                made++;
                learn(open[0], open[1], made - 1);
                drawAll();
                open = firstOpen();
            }
            return made;
        }

        private int[] firstOpen() {
            for (int c = 0; c < made; c++) {
                for (int i = 0; i < 2 * n; i++) {
                    if (lives(c) && known(c, LETTERS[i]) == NONE) {
                        return new int[] {c, LETTERS[i]};
                    }
                }
            }
            return null;
        }

        private void drawAll() {
            boolean changed = true;
            while (changed) {
                changed = false;
                List<int[]> jobs = new ArrayList<>();
                for (int c = 0; c < made; c++) {
                    for (int k = 0; k < relators.size(); k++) {
                        jobs.add(new int[] {c, k});
                    }
                }
                for (int k = 0; k < subgroupWords.size(); k++) {
                    jobs.add(new int[] {0, -1 - k});
                }
                Collections.shuffle(jobs, lot);
                for (int[] job : jobs) {
                    int[] word = job[1] >= 0 ? relators.get(job[1]) : subgroupWords.get(-1 - job[1]);
                    changed |= lives(job[0]) && draw(job[0], word);
                }
            }
        }

        private boolean draw(int c, int[] word) {
            int p = c;
            int front = 0;
            while (front < word.length && known(p, word[front]) != NONE) {
                p = known(p, word[front]);
                front++;
            }
            if (front == word.length) {
                makeOne(p, c);
                return p != c;
            }
            int q = c;
            int back = word.length;
            while (back > front && known(q, -word[back - 1]) != NONE) {
                q = known(q, -word[back - 1]);
                back--;
            }
            if (back == front) {
                // Without this the order would matter, which the document rules out.
                makeOne(p, q);
                return p != q;
            }
            if (back == front + 1) {
                learn(p, word[front], q);
                return true;
            }
            return false;
        }

        private void learn(int c, int x, int d) {
            Deque<int[]> facts = new ArrayDeque<>();
            facts.add(new int[] {c, x, d});
            facts.add(new int[] {d, -x, c});
            learnAll(facts);
        }

        private void makeOne(int c, int d) {
            Deque<int[]> facts = new ArrayDeque<>();
            fall(c, d, facts);
            learnAll(facts);
        }

        private void learnAll(Deque<int[]> facts) {
            while (!facts.isEmpty()) {
                int[] fact = facts.poll();
                int c = leaderOf(fact[0]);
                int d = leaderOf(fact[2]);
                int old = known(c, fact[1]);
                if (old == NONE) {
                    next[c][fact[1] + 3] = d;
                } else {
                    fall(old, d, facts);
                }
            }
        }

        private int leaderOf(int c) {
            return leader[c] == c ? c : leaderOf(leader[c]);
        }

        private void fall(int c, int d, Deque<int[]> facts) {
            int low = Math.min(leaderOf(c), leaderOf(d));
            int high = Math.max(leaderOf(c), leaderOf(d));
            if (low == high) {
                return;
            }
            leader[high] = low;
            for (int b = 0; b < made; b++) {
                for (int x = -n; x <= n; x++) {
                    if (x != 0 && known(b, x) != NONE && (b == high || known(b, x) == high)) {
                        facts.add(new int[] {b, x, known(b, x)});
                        next[b][x + 3] = NONE;
                    }
                }
            }
        }

        List<Integer> namesByNumber() {
            List<Integer> names = new ArrayList<>();
            names.add(0);
            for (int c = 0; c < names.size(); c++) {
                for (int i = 0; i < 2 * n; i++) {
                    int d = known(names.get(c), LETTERS[i]);
                    if (!names.contains(d)) {
                        names.add(d);
                    }
                }
            }
            return names;
        }

        int[] permutation(List<Integer> names, int[] word) {
            int[] images = new int[names.size()];
            for (int c = 0; c < images.length; c++) {
                int d = names.get(c);
                for (int x : word) {
                    d = known(d, x);
                }
                images[c] = names.indexOf(d);
            }
            return images;
        }
    }
}
