/** For each promise of the document: ordinary inputs, the edges that it names, and wrong inputs. */
public final class PromiseTest {
    private static final int BAD = -1;
    private static final int NONE = -2;
    private static final int LEAST = Integer.MIN_VALUE;
    private static final int MOST = Integer.MAX_VALUE;
    private static int wrong = 0;

    public static void main(String[] args) {
        testNewObject();
        testBegin();
        testBeginForgetsAll();
        testLetter();
        testClear();
        testRelator();
        testRelatorLimit();
        testSubgroup();
        testSubgroupLimit();
        testRunLimits();
        testRunSteps();
        testRunDrawsFirst();
        testRunGoesOn();
        testRunOneLetterRelators();
        testRunSubgroupWords();
        testRunWaysThatMeet();
        testRunLongestWords();
        testRunFullTable();
        testCount();
        testKnown();
        testNumber();
        testNumberOrder();
        testEntry();
        testMove();
        testCycles();
        testOrder();
        testOrderIsNoCycle();
        testResting();
        testOrbit();
        testOrbitIsJoinedBySeveralWords();
        testCompleteTableIsAskedAlone();
        testExampleOfReadme();
        System.out.println(wrong == 0 ? "all promises hold" : wrong + " answers are not as due");
        if (wrong != 0) {
            System.exit(1);
        }
    }

    private static void due(String what, long got, long want) {
        if (got != want) {
            wrong++;
            System.out.println(what + " answered " + got + ", due is " + want);
        }
    }

    /** Letters as text: a, b, c are 1, 2, 3 and A, B, C their inverses. */
    private static void spell(CosetTable t, String word) {
        for (char letter : word.toCharArray()) {
            int x = letter >= 'a' ? letter - 'a' + 1 : -(letter - 'A' + 1);
            if (t.letter(x) == BAD) {
                due("letter " + letter + " of " + word, BAD, 0);
            }
        }
    }

    private static CosetTable group(int n, String relators, String subgroupWords) {
        CosetTable t = new CosetTable();
        t.begin(n);
        for (String word : relators.split(" ")) {
            if (!word.isEmpty()) {
                spell(t, word);
                t.relator();
            }
        }
        for (String word : subgroupWords.split(" ")) {
            if (!word.isEmpty()) {
                spell(t, word);
                t.subgroup();
            }
        }
        return t;
    }

    private static void word(CosetTable t, String word) {
        t.clear();
        spell(t, word);
    }

    private static void dueCounts(String when, CosetTable t, int... want) {
        for (int i = 0; i < want.length; i++) {
            due(when + ": count(" + i + ")", t.count(i), want[i]);
        }
    }

    // Promise 1

    private static void testNewObject() {
        CosetTable t = new CosetTable();
        dueCounts("new", t, 1, 1, 2, 0, NONE, 0, 0, 0);
        due("new: known(0, 1)", t.known(0, 1), NONE);
        due("new: known(0, -1)", t.known(0, -1), NONE);
        due("new: known(1, 1)", t.known(1, 1), BAD);
        due("new: letter(2)", t.letter(2), BAD);
        due("new: letter(-1)", t.letter(-1), 1);
        due("new: run(3)", t.run(3), 3);
        dueCounts("new object beside another", new CosetTable(), 1, 1, 2, 0, NONE, 0, 0, 0);
    }

    // Promise 2

    private static void testBegin() {
        CosetTable t = new CosetTable();
        for (int n = 1; n <= 3; n++) {
            due("begin(" + n + ")", t.begin(n), 0);
            dueCounts("begin(" + n + ")", t, 1, 1, 2 * n, 0, NONE, 0, 0, 0);
        }
        for (int n : new int[] {0, 4, -1, -3, LEAST, MOST}) {
            due("begin(" + n + ")", t.begin(n), BAD);
        }
        dueCounts("bad begin", t, 1, 1, 6, 0, NONE, 0, 0, 0);
    }

    private static void testBeginForgetsAll() {
        CosetTable t = group(2, "aa bb abab", "a");
        t.run(200);
        spell(t, "ab");
        due("begin(4)", t.begin(4), BAD);
        dueCounts("bad begin", t, 2, 2, 0, 1, 2, 3, 1, 2);
        due("begin(2)", t.begin(2), 0);
        dueCounts("begin", t, 1, 1, 4, 0, NONE, 0, 0, 0);
        due("begin: known(0, 1)", t.known(0, 1), NONE);
        due("begin: order()", t.order(), BAD);
        due("begin: run(7)", t.run(7), 7);
        due("begin: no old relator", t.known(0, 1), 1);
        due("begin: no old relator", t.known(0, -1), 2);
    }

    // Promise 3

    private static void testLetter() {
        CosetTable t = new CosetTable();
        for (int n = 1; n <= 3; n++) {
            t.begin(n);
            int length = 0;
            for (int x = -4; x <= 4; x++) {
                boolean isLetter = x != 0 && Math.abs(x) <= n;
                length += isLetter ? 1 : 0;
                due("n " + n + ": letter(" + x + ")", t.letter(x), isLetter ? length : BAD);
            }
            due("letter(least)", t.letter(LEAST), BAD);
            due("letter(most)", t.letter(MOST), BAD);
            due("bad letters", t.count(7), length);
        }
        t.clear();
        for (int i = 1; i <= 24; i++) {
            due("letter " + i, t.letter(i % 2 == 0 ? 3 : -3), i);
        }
        due("letter 25", t.letter(1), BAD);
        due("letter 25, none", t.letter(0), BAD);
        due("letter 25", t.count(7), 24);
    }

    // Promise 4

    private static void testClear() {
        CosetTable t = group(1, "aaa", "");
        due("clear()", t.clear(), 0);
        t.run(200);
        spell(t, "aaA");
        due("clear()", t.clear(), 3);
        due("clear()", t.clear(), 0);
        dueCounts("clear", t, 3, 3, 0, 1, 3, 1, 0, 0);
        spell(t, "aaaaaaaaaaaaaaaaaaaaaaaa");
        due("clear()", t.clear(), 24);
        due("letter(1)", t.letter(1), 1);
    }

    // Promise 5

    private static void testRelator() {
        CosetTable t = new CosetTable();
        due("relator(), empty", t.relator(), BAD);
        spell(t, "aaaa");
        due("relator()", t.relator(), 1);
        due("relator: hand", t.count(7), 0);
        due("relator(), empty", t.relator(), BAD);
        t.run(200);
        dueCounts("four", t, 4, 4, 0, 1, 4, 1, 0, 0);
        due("relator(), empty", t.relator(), BAD);
        dueCounts("bad relator", t, 4, 4, 0, 1, 4, 1, 0, 0);
        spell(t, "aa");
        due("relator()", t.relator(), 2);
        dueCounts("relator", t, 1, 1, 2, 0, NONE, 2, 0, 0);
        due("relator: known(0, 1)", t.known(0, 1), NONE);
        due("relator: number(0)", t.number(0), BAD);
        t.run(200);
        due("two", t.count(4), 2);
    }

    private static void testRelatorLimit() {
        CosetTable t = new CosetTable();
        for (int i = 1; i <= 10; i++) {
            spell(t, "aaaaaa");
            due("relator " + i, t.relator(), i);
        }
        t.run(200);
        spell(t, "aa");
        due("relator 11", t.relator(), BAD);
        dueCounts("relator 11", t, 6, 6, 0, 1, 6, 10, 0, 2);
        due("subgroup() behind relator 11", t.subgroup(), 1);
        t.run(200);
        due("subgroup() behind relator 11", t.count(4), 2);
    }

    // Promise 6

    private static void testSubgroup() {
        CosetTable t = new CosetTable();
        due("subgroup(), empty", t.subgroup(), BAD);
        spell(t, "aaaa");
        due("subgroup()", t.subgroup(), 1);
        due("subgroup: hand", t.count(7), 0);
        t.run(200);
        dueCounts("four", t, 4, 4, 0, 1, 4, 0, 1, 0);
        due("subgroup(), empty", t.subgroup(), BAD);
        dueCounts("bad subgroup", t, 4, 4, 0, 1, 4, 0, 1, 0);
        spell(t, "aaaaaa");
        due("subgroup()", t.subgroup(), 2);
        dueCounts("subgroup", t, 1, 1, 2, 0, NONE, 0, 2, 0);
        due("subgroup: known(0, -1)", t.known(0, -1), NONE);
        t.run(200);
        due("two", t.count(4), 2);
    }

    private static void testSubgroupLimit() {
        CosetTable t = new CosetTable();
        for (int i = 1; i <= 5; i++) {
            spell(t, "aaaaaa");
            due("subgroup " + i, t.subgroup(), i);
        }
        t.run(200);
        spell(t, "aa");
        due("subgroup 6", t.subgroup(), BAD);
        dueCounts("subgroup 6", t, 6, 6, 0, 1, 6, 0, 5, 2);
        due("relator() behind subgroup 6", t.relator(), 1);
        t.run(200);
        due("relator() behind subgroup 6", t.count(4), 2);
    }

    // Promise 7

    private static void testRunLimits() {
        CosetTable t = new CosetTable();
        t.run(3);
        for (int limit : new int[] {0, -1, 201, LEAST, MOST}) {
            due("run(" + limit + ")", t.run(limit), BAD);
        }
        dueCounts("bad run", t, 3, 3, 2, 0, NONE, 0, 0, 0);
        due("run(1)", t.run(1), 3);
        due("run(2)", t.run(2), 3);
        due("run(3)", t.run(3), 3);
        due("run(4)", t.run(4), 4);
        due("run(200)", t.run(200), 200);
        due("run(200)", t.run(200), 200);
        due("run(1)", t.run(1), 200);
    }

    private static void testRunSteps() {
        CosetTable t = new CosetTable();
        t.begin(3);
        due("run(9)", t.run(9), 9);
        int[] letters = {1, -1, 2, -2, 3, -3};
        for (int i = 0; i < 6; i++) {
            due("step " + i, t.known(0, letters[i]), i + 1);
            due("step " + i + " back", t.known(i + 1, -letters[i]), 0);
        }
        due("step 6", t.known(1, 1), 7);
        due("step 7 passes over what is known", t.known(1, 2), 8);
        due("step 8 is not made", t.known(1, -2), NONE);
        due("open", t.count(2), 9 * 6 - 2 * 8);
    }

    private static void testRunDrawsFirst() {
        CosetTable t = group(2, "a", "b");
        dueCounts("before run", t, 1, 1, 4, 0, NONE, 1, 1, 0);
        due("run(1)", t.run(1), 1);
        dueCounts("run(1)", t, 1, 1, 0, 1, 1, 1, 1, 0);
        t = group(2, "abAB", "a");
        due("run(1)", t.run(1), 1);
        due("known(0, -1)", t.known(0, -1), 0);
        due("known(0, 2)", t.known(0, 2), NONE);
    }

    private static void testRunGoesOn() {
        CosetTable all = group(2, "aa bbb ababababab", "");
        CosetTable parts = group(2, "aa bbb ababababab", "");
        due("run(200)", all.run(200), 60);
        for (int limit = 1; limit <= 200; limit += 7) {
            parts.run(limit);
        }
        for (int c = 0; c < 62; c++) {
            for (int x = -2; x <= 2; x++) {
                due("in parts: known(" + c + ", " + x + ")", parts.known(c, x), all.known(c, x));
            }
        }
    }

    private static void testRunOneLetterRelators() {
        CosetTable t = group(2, "a", "");
        due("run(5)", t.run(5), 5);
        for (int c = 0; c < 5; c++) {
            due("a at " + c, t.known(c, 1), c);
            due("A at " + c, t.known(c, -1), c);
        }
        due("open", t.count(2), 2);
        t = group(3, "a B ccc", "");
        due("run(50)", t.run(50), 3);
        dueCounts("run(50)", t, 3, 3, 0, 1, 3, 3, 0, 0);
    }

    private static void testRunSubgroupWords() {
        CosetTable t = group(2, "", "ab");
        due("run(2)", t.run(2), 2);
        due("ab at 0", t.known(1, 2), 0);
        due("ab at 0", t.known(0, -2), 1);
        due("run(3)", t.run(3), 3);
        due("A at 0", t.known(0, -1), 2);
        due("ab not at 2", t.known(0, 2), NONE);
        t = group(1, "", "aaaa aaaaaa");
        t.run(200);
        due("gcd", t.count(4), 2);
        t = group(2, "aa bb abab", "aA");
        t.run(200);
        due("a word that is nothing", t.count(4), 4);
    }

    /** Cosets fall together: the numbers hold only if ways that meet make one of two. */
    private static void testRunWaysThatMeet() {
        CosetTable t = group(2, "abABB baBAA", "");
        due("run(200)", t.run(200), 10);
        dueCounts("run(200)", t, 10, 1, 0, 1, 1, 2, 0, 0);
        t = group(3, "a baBAaC bBcB", "");
        due("run(30)", t.run(30), 2);
        dueCounts("run(30)", t, 2, 1, 0, 1, 1, 3, 0, 0);
        t = group(1, "aaaaaa aaaa", "");
        due("run(3)", t.run(3), 3);
        dueCounts("run(3)", t, 3, 3, 2, 0, NONE, 2, 0, 0);
        due("run(4)", t.run(4), 4);
        dueCounts("run(4)", t, 4, 2, 0, 1, 2, 2, 0, 0);
        for (int c = 2; c < 5; c++) {
            due("known(" + c + ", 1)", t.known(c, 1), BAD);
            due("number(" + c + ")", t.number(c), BAD);
        }
    }

    private static void testRunLongestWords() {
        CosetTable t = group(1, "aaaaaaaaaaaaaaaaaaaaaaaa", "");
        due("run(200)", t.run(200), 24);
        due("index", t.count(4), 24);
        t = group(2, "abABabABabABabABabABabAB", "aaaaaaaaaaaaaaaaaaaaaaaa BBBBBBBBBBBBBBBBBBBBBBBB");
        due("run(200)", t.run(200), 200);
        due("complete", t.count(3), 0);
    }

    private static void testRunFullTable() {
        CosetTable t = group(2, "abAB", "aaaaaaaaaaaaaaaaaaaa bbbbbbbbbb");
        due("run(199)", t.run(199), 199);
        due("complete", t.count(3), 0);
        due("run(200)", t.run(200), 200);
        dueCounts("run(200)", t, 200, 200, 0, 1, 200, 1, 2, 0);
        t.begin(3);
        due("run(200)", t.run(200), 200);
        due("open", t.count(2), 200 * 6 - 2 * 199);
    }

    // Promise 8

    private static void testCount() {
        CosetTable t = group(2, "aa bb ababab", "b");
        spell(t, "abA");
        dueCounts("first", t, 1, 1, 4, 0, NONE, 3, 1, 3);
        t.run(2);
        dueCounts("run(2)", t, 2, 2, 2, 0, NONE, 3, 1, 3);
        t.run(3);
        dueCounts("run(3)", t, 3, 3, 0, 1, 3, 3, 1, 3);
        for (int which : new int[] {-1, -2, 8, 9, LEAST, MOST}) {
            due("count(" + which + ")", t.count(which), BAD);
        }
    }

    // Promise 9

    private static void testKnown() {
        CosetTable t = group(2, "aa", "");
        t.run(3);
        due("known(0, 1)", t.known(0, 1), 1);
        due("known(0, -1)", t.known(0, -1), 1);
        due("known(1, 1)", t.known(1, 1), 0);
        due("known(0, 2)", t.known(0, 2), 2);
        due("known(2, -2)", t.known(2, -2), 0);
        due("known(2, 2)", t.known(2, 2), NONE);
        for (int x : new int[] {0, 3, -3, LEAST, MOST}) {
            due("known(0, " + x + ")", t.known(0, x), BAD);
        }
        for (int c : new int[] {-1, -2, 3, 199, 200, LEAST, MOST}) {
            due("known(" + c + ", 1)", t.known(c, 1), BAD);
        }
    }

    // Promise 10

    private static void testNumber() {
        CosetTable t = group(2, "aa bbb abab", "");
        t.run(5);
        due("not complete: number(0)", t.number(0), BAD);
        t.run(200);
        due("index", t.count(4), 6);
        boolean[] given = new boolean[6];
        for (int c = 0; c < t.count(0); c++) {
            int number = t.number(c);
            if (t.known(c, 1) != BAD) {
                due("number of " + c, number >= 0 && number < 6 && !given[number] ? 1 : 0, 1);
                given[number] = true;
            } else {
                due("number of no coset " + c, number, BAD);
            }
        }
        for (int c : new int[] {-1, -2, t.count(0), 200, LEAST, MOST}) {
            due("number(" + c + ")", t.number(c), BAD);
        }
    }

    /** Names with gaps, so that names and numbers differ. */
    private static void testNumberOrder() {
        String[] relators = {"aaa bbb abab", "baaa babb BAbbaA", "aABBB aaBB", "ABAaba aaaaa bbB", "aaaa bbb abab"};
        boolean differ = false;
        for (String group : relators) {
            CosetTable t = group(2, group, "");
            t.run(200);
            int next = 1;
            for (int c = 0; c < t.count(4); c++) {
                for (int x : new int[] {1, -1, 2, -2}) {
                    int d = t.entry(c, x);
                    due(group + ": first met", d <= next ? 1 : 0, 1);
                    next = d == next ? next + 1 : next;
                }
            }
            for (int c = 0; c < t.count(0); c++) {
                differ |= t.number(c) >= 0 && t.number(c) != c;
            }
        }
        due("names and numbers differ somewhere", differ ? 1 : 0, 1);
    }

    // Promise 11

    private static void testEntry() {
        CosetTable t = group(2, "aaa bbb abab", "");
        t.run(4);
        due("not complete: entry(0, 1)", t.entry(0, 1), BAD);
        t.run(200);
        due("index", t.count(4), 12);
        for (int c = 0; c < t.count(0); c++) {
            for (int x = -2; x <= 2; x++) {
                if (x != 0 && t.known(c, x) != BAD) {
                    due("entry", t.entry(t.number(c), x), t.number(t.known(c, x)));
                    due("entry back", t.entry(t.entry(t.number(c), x), -x), t.number(c));
                }
            }
        }
        for (int x : new int[] {0, 3, -3, LEAST, MOST}) {
            due("entry(0, " + x + ")", t.entry(0, x), BAD);
        }
        for (int c : new int[] {-1, 12, 200, LEAST, MOST}) {
            due("entry(" + c + ", 1)", t.entry(c, 1), BAD);
        }
    }

    // Promise 12

    private static void testMove() {
        CosetTable t = group(1, "aaaaaaa", "");
        t.run(6);
        due("not complete: move(0)", t.move(0), BAD);
        t.run(200);
        for (int c = 0; c < 7; c++) {
            t.clear();
            due("empty: move(" + c + ")", t.move(c), c);
            spell(t, "aaA");
            due("move(" + c + ")", t.move(c), t.entry(c, 1));
            spell(t, "a");
            due("twice: move(" + c + ")", t.move(c), t.entry(t.entry(c, 1), 1));
        }
        for (int c : new int[] {-1, 7, 200, LEAST, MOST}) {
            due("move(" + c + ")", t.move(c), BAD);
        }
        due("hand stays", t.count(7), 4);
        t = group(2, "aa bbb abab", "");
        t.run(200);
        spell(t, "aba");
        due("a word is read from its first letter on", t.move(1), t.entry(t.entry(t.entry(1, 1), 2), 1));
        due("aba is B", t.move(1), t.entry(1, -2));
    }

    // Promise 13

    private static void testCycles() {
        CosetTable t = group(2, "aa bbb abababab", "b");
        t.run(5);
        due("not complete: cycles(false)", t.cycles(false), BAD);
        due("not complete: cycles(true)", t.cycles(true), BAD);
        t.run(200);
        int index = t.count(4);
        due("index", index, 8);
        due("empty: cycles(false)", t.cycles(false), 8);
        due("empty: cycles(true)", t.cycles(true), 8);
        word(t, "b");
        due("b: cycles(false)", t.cycles(false), 4);
        due("b: cycles(true)", t.cycles(true), 2);
        word(t, "a");
        due("a: cycles(false)", t.cycles(false), 4);
        due("a: cycles(true)", t.cycles(true), 0);
        word(t, "ab");
        due("ab: cycles(false)", t.cycles(false), 2);
        due("ab: cycles(true)", t.cycles(true), 0);
    }

    // Promise 14

    private static void testOrder() {
        CosetTable t = group(2, "aa bbb abababab", "");
        t.run(7);
        due("not complete: order()", t.order(), BAD);
        t.run(200);
        due("empty: order()", t.order(), 1);
        String[] words = {"a", "b", "ab", "abAB", "aa", "bb", "abb", "bA"};
        int[] orders = {2, 3, 4, 3, 1, 3, 4, 4};
        for (int i = 0; i < words.length; i++) {
            word(t, words[i]);
            due(words[i] + ": order()", t.order(), orders[i]);
        }
        due("hand stays", t.count(7), 2);
        t = group(2, "aa bbb abababab", "b");
        t.run(200);
        word(t, "b");
        due("on fewer cosets: order()", t.order(), 3);
        t = group(2, "aa bbb abab", "a b");
        t.run(200);
        word(t, "b");
        due("one coset: order()", t.order(), 1);
    }

    private static void testOrderIsNoCycle() {
        CosetTable t = group(2, "aa bbbbb abababab aBabaBabaBab aBBabbaBBabb", "a Bab BBabb");
        t.run(200);
        due("index", t.count(4), 5);
        word(t, "aBBabbBBBabbb");
        due("cycles(false)", t.cycles(false), 2);
        due("order()", t.order(), 6);
        t = group(2, "abAB", "aaaaaaaaaaaaaaa bbbbbbbbbbbbb");
        t.run(200);
        due("index", t.count(4), 195);
        word(t, "ab");
        due("ab: order()", t.order(), 195);
        word(t, "aaabbb");
        due("aaabbb: order()", t.order(), 65);
    }

    // Promise 15

    private static void testResting() {
        CosetTable t = group(2, "aa bbb abab", "");
        t.run(3);
        due("not complete: resting()", t.resting(), BAD);
        t.run(200);
        due("no words: resting()", t.resting(), 6);
        t = group(2, "aa bbb abab", "a");
        t.run(200);
        due("a: resting()", t.resting(), 1);
        t = group(2, "aa bbb abab", "b");
        t.run(200);
        due("b: resting()", t.resting(), 2);
        t = group(2, "aa bbb ababababab", "a b");
        t.run(200);
        due("all: resting()", t.resting(), 1);
        t = group(2, "abAB aaaa bbbb", "aa bb");
        t.run(200);
        spell(t, "a");
        due("the word at hand is none of them: resting()", t.resting(), 4);
        t = group(3, "aa bb cc abab acac bcbc", "a b");
        t.run(200);
        due("abelian: resting()", t.resting(), 2);
    }

    // Promise 16

    private static void testOrbit() {
        CosetTable t = group(2, "aa bbb abab", "a");
        t.run(2);
        due("not complete: orbit(0)", t.orbit(0), BAD);
        t.run(200);
        due("index", t.count(4), 3);
        due("orbit(0)", t.orbit(0), 0);
        due("orbit(1)", t.orbit(1), 1);
        due("orbit(2)", t.orbit(2), 1);
        for (int c : new int[] {-1, 3, 200, LEAST, MOST}) {
            due("orbit(" + c + ")", t.orbit(c), BAD);
        }
        t = group(1, "aaaaa", "");
        t.run(200);
        for (int c = 0; c < 5; c++) {
            due("no words: orbit(" + c + ")", t.orbit(c), c);
        }
    }

    /** The three points of two words that each move but two of them. */
    private static void testOrbitIsJoinedBySeveralWords() {
        CosetTable t = group(3, "aa bb cc ababab bcbcbc acac", "a b");
        t.run(200);
        due("index", t.count(4), 4);
        due("orbit(0)", t.orbit(0), 0);
        due("orbit(1)", t.orbit(1), 1);
        due("orbit(2)", t.orbit(2), 1);
        due("orbit(3)", t.orbit(3), 1);
        due("resting()", t.resting(), 1);
    }

    /** Asking changes nothing, and an unfinished table refuses all that needs a complete one. */
    private static void testCompleteTableIsAskedAlone() {
        CosetTable t = group(2, "aa bb ababab", "");
        t.run(200);
        due("complete", t.count(3), 1);
        spell(t, "ab");
        due("a letter leaves it complete", t.count(3), 1);
        t.run(1);
        due("a small limit leaves it complete", t.count(4), 6);
        t.relator();
        due("a relator opens it", t.count(3), 0);
        due("number", t.number(0), BAD);
        due("entry", t.entry(0, 1), BAD);
        due("move", t.move(0), BAD);
        due("cycles", t.cycles(false), BAD);
        due("order", t.order(), BAD);
        due("resting", t.resting(), BAD);
        due("orbit", t.orbit(0), BAD);
        t.run(200);
        due("ab is nothing now", t.count(4), 2);
    }

    private static void testExampleOfReadme() {
        CosetTable t = group(2, "aa bbb abab", "a");
        due("run(200)", t.run(200), 3);
        due("count(4)", t.count(4), 3);
        spell(t, "ab");
        due("move(0)", t.move(0), 1);
        due("order()", t.order(), 2);
        due("cycles(true)", t.cycles(true), 1);
    }
}
