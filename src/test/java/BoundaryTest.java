import java.lang.reflect.InvocationTargetException;
import java.lang.reflect.Method;
import java.lang.reflect.Modifier;
import java.util.Map;
import java.util.TreeMap;

/**
 * A test of its own for each sentence of the document that names a boundary case. The name of a
 * test begins with the place of its sentence: "terms" or the number of the promise. Every method
 * whose name begins so is run, so that none can be left out of a list.
 */
public final class BoundaryTest {
    private static final int BAD = -1;
    private static final int NONE = -2;
    private static final int LEAST = Integer.MIN_VALUE;
    private static final int MOST = Integer.MAX_VALUE;
    private static final String A24 = "aaaaaaaaaaaaaaaaaaaaaaaa";
    private static final int[] LETTERS = {1, -1, 2, -2, 3, -3};

    private static String test = "";
    private static int wrong = 0;

    public static void main(String[] args) throws Exception {
        Map<String, Method> tests = new TreeMap<>();
        for (Method m : BoundaryTest.class.getDeclaredMethods()) {
            if (!Modifier.isPrivate(m.getModifiers()) && m.getName().matches("(terms|promise\\d\\d).*")) {
                tests.put(m.getName(), m);
            }
        }
        int failed = 0;
        for (Method m : tests.values()) {
            int before = wrong;
            test = m.getName();
            runTest(m);
            failed += wrong > before ? 1 : 0;
        }
        System.out.println(tests.size() + " boundary tests, " + failed + " failed");
        for (int promise = 1; promise <= 16; promise++) {
            String name = String.format("promise%02d", promise);
            due("tests of " + name, tests.keySet().stream().anyMatch(s -> s.startsWith(name)) ? 1 : 0, 1);
        }
        if (wrong != 0) {
            System.exit(1);
        }
    }

    /** A call that throws is a wrong answer, and the other tests are still run. */
    private static void runTest(Method m) throws IllegalAccessException {
        try {
            m.invoke(null);
        } catch (InvocationTargetException e) {
            wrong++;
            System.out.println(test + ": threw " + e.getCause());
        }
    }

    private static void due(String what, long got, long want) {
        if (got != want) {
            wrong++;
            System.out.println(test + ": " + what + " answered " + got + ", due is " + want);
        }
    }

    private static void dueCounts(CosetTable t, int... want) {
        for (int i = 0; i < want.length; i++) {
            due("count(" + i + ")", t.count(i), want[i]);
        }
    }

    private static void dueKnown(CosetTable t, int c, int... want) {
        for (int i = 0; i < want.length; i++) {
            due("known(" + c + ", " + LETTERS[i] + ")", t.known(c, LETTERS[i]), want[i]);
        }
    }

    private static void dueSame(String what, String got, String want) {
        if (!got.equals(want)) {
            wrong++;
            System.out.println(test + ": " + what + ": the state is\n  " + got + "\nand was\n  " + want);
        }
    }

    /** Letters as text: a, b, c are 1, 2, 3 and A, B, C their inverses. */
    private static void spell(CosetTable t, String word) {
        for (char letter : word.toCharArray()) {
            t.letter(letter >= 'a' ? letter - 'a' + 1 : -(letter - 'A' + 1));
        }
    }

    private static void word(CosetTable t, String word) {
        t.clear();
        spell(t, word);
    }

    private static CosetTable group(int n, String relators, String subgroupWords) {
        CosetTable t = new CosetTable();
        t.begin(n);
        for (String word : relators.split(" ")) {
            spell(t, word);
            t.relator();
        }
        for (String word : subgroupWords.split(" ")) {
            spell(t, word);
            t.subgroup();
        }
        return t;
    }

    private static CosetTable groupRun(int n, String relators, String subgroupWords, int limit) {
        CosetTable t = group(n, relators, subgroupWords);
        t.run(limit);
        return t;
    }

    /** Turns and reflections of a triangle: a complete table of six. */
    private static CosetTable six() {
        return groupRun(2, "aa bbb abab", "", 200);
    }

    /** Five were made, 0, 1, 3 and 4 are there, the name 2 has fallen, and all is known. */
    private static CosetTable completeWithFallen() {
        return groupRun(2, "bAb ABB", "", 200);
    }

    /** Six were made, 0, 1, 3 and 4 are there, the names 2 and 5 have fallen, and eight are open. */
    private static CosetTable openWithFallen() {
        return groupRun(2, "aaaa aaaaaa", "", 6);
    }

    /** As many cosets as there can be: a complete table of 200, in which no name has fallen. */
    private static CosetTable fullTable() {
        return groupRun(2, "abAB", "aaaaaaaaaaaaaaaaaaaab bbbbbbbbbb", 200);
    }

    /** All that can be asked of a small table; its calls count among the 512 of the object. */
    private static String state(CosetTable t) {
        StringBuilder s = new StringBuilder("counts");
        for (int i = 0; i < 8; i++) {
            s.append(' ').append(t.count(i));
        }
        for (int c = 0; c < 8; c++) {
            s.append(" | ").append(t.number(c)).append(' ').append(t.move(c)).append(' ').append(t.orbit(c));
            for (int x = -2; x <= 2; x++) {
                s.append(' ').append(t.known(c, x)).append(' ').append(t.entry(c, x));
            }
        }
        s.append(" | ").append(t.cycles(false)).append(' ').append(t.cycles(true));
        return s.append(' ').append(t.order()).append(' ').append(t.resting()).toString();
    }

    private static void dueIncomplete(CosetTable t) {
        due("count(3)", t.count(3), 0);
        due("count(4)", t.count(4), NONE);
        due("number(0)", t.number(0), BAD);
        due("entry(0, 1)", t.entry(0, 1), BAD);
        due("move(0)", t.move(0), BAD);
        due("cycles(false)", t.cycles(false), BAD);
        due("cycles(true)", t.cycles(true), BAD);
        due("order()", t.order(), BAD);
        due("resting()", t.resting(), BAD);
        due("orbit(0)", t.orbit(0), BAD);
    }

    private static void dueAtFirst(CosetTable t, int n) {
        dueIncomplete(t);
        due("count(0)", t.count(0), 1);
        due("count(1)", t.count(1), 1);
        due("count(2)", t.count(2), 2 * n);
        for (int i = 0; i < 2 * n; i++) {
            due("known(0, " + LETTERS[i] + ")", t.known(0, LETTERS[i]), NONE);
        }
        due("known(1, 1)", t.known(1, 1), BAD);
    }

    // What it is, and Terms

    /** "An object is used for at most 512 calls": the last of them is still promised. */
    static void termsCall512IsPromised() {
        CosetTable t = new CosetTable();
        for (int call = 1; call <= 505; call += 5) {
            due("begin", t.begin(3), 0);
            due("letter", t.letter(-3), 1);
            due("relator", t.relator(), 1);
            due("run", t.run(200), 200);
            due("count", t.count(2), 200 * 4 - 2 * 199);
        }
        due("call 506", t.begin(1), 0);
        due("call 507", t.letter(1), 1);
        due("call 508", t.letter(1), 2);
        due("call 509", t.subgroup(), 1);
        due("call 510", t.run(200), 2);
        due("call 511", t.letter(1), 1);
        due("call 512", t.order(), 2);
    }

    /** "At first there is 0 alone, and nothing is known." */
    static void termsAtFirstZeroAlone() {
        for (int n = 1; n <= 3; n++) {
            CosetTable t = new CosetTable();
            t.begin(n);
            dueAtFirst(t, n);
        }
    }

    /** "c x = d: d (- x) = c", with c and d the same, too. */
    static void termsEntryIsKnownBackwards() {
        CosetTable t = groupRun(3, "", "C", 5);
        dueKnown(t, 0, 1, 2, 3, 4, 0, 0);
        due("known(1, -1)", t.known(1, -1), 0);
        due("known(2, 1)", t.known(2, 1), 0);
        due("known(3, -2)", t.known(3, -2), 0);
        due("known(4, 2)", t.known(4, 2), 0);
        due("known(1, 1)", t.known(1, 1), NONE);
    }

    /** "c x = d and c x = e: d and e are one": 3 becomes 0, so that 0 1 is 1 and 2. */
    static void termsTwoAnswersAreOne() {
        CosetTable t = groupRun(1, "aaaaaa aaaa", "", 4);
        dueCounts(t, 4, 2, 0, 1, 2);
        dueKnown(t, 0, 1, 1);
        dueKnown(t, 1, 0, 0);
        dueKnown(t, 2, BAD, BAD);
        dueKnown(t, 3, BAD, BAD);
    }

    /** Two cosets that a letter leads to the same one are one, by the inverse letter. */
    static void termsTwoOriginsAreOne() {
        CosetTable t = group(2, "bBbab BBBA", "");
        due("run(200)", t.run(200), 5);
        dueCounts(t, 5, 1, 0, 1, 1);
    }

    /** "For a relator, and a coset c": it is followed from every coset. */
    static void termsRelatorHoldsAtEveryCoset() {
        CosetTable t = groupRun(2, "bb", "", 6);
        for (int c = 0; c < 6; c++) {
            if (t.known(c, 2) != NONE) {
                due("known(" + c + ", -2)", t.known(c, -2), t.known(c, 2));
            }
        }
        dueKnown(t, 0, 1, 2, 3, 3);
        dueKnown(t, 1, 4, 0, 5, 5);
        due("known(5, 2)", t.known(5, 2), 1);
        t = groupRun(2, "aba", "", 4);
        due("from 0", t.known(1, 2), 2);
        due("from 2", t.known(3, 1), 2);
        due("from 1, not yet", t.known(1, 1), NONE);
        due("run(5)", t.run(5), 5);
        due("from 1", t.known(1, 1), 4);
    }

    /** "or a subgroup word, and the coset 0": it is followed from there alone. */
    static void termsSubgroupWordHoldsAtZeroAlone() {
        CosetTable t = groupRun(2, "", "bb", 6);
        dueKnown(t, 0, 1, 2, 3, 3);
        dueKnown(t, 3, NONE, NONE, 0, 0);
        dueKnown(t, 1, 4, 0, 5, NONE);
        dueKnown(t, 5, NONE, NONE, NONE, 1);
    }

    /** "If just one letter x lies between both: p x = q", the letter being the only one of the word. */
    static void termsOneLetterBetweenIsTheWholeWord() {
        dueKnown(groupRun(2, "", "a", 1), 0, 0, 0, NONE, NONE);
        dueKnown(groupRun(2, "", "B", 1), 0, NONE, NONE, 0, 0);
        CosetTable t = groupRun(2, "a", "", 3);
        for (int c = 0; c < 3; c++) {
            due("known(" + c + ", 1)", t.known(c, 1), c);
            due("known(" + c + ", -1)", t.known(c, -1), c);
        }
    }

    /** The letter between is the first one of the word: the way there has not begun. */
    static void termsOneLetterBetweenIsTheFirst() {
        CosetTable t = groupRun(2, "", "bA", 2);
        dueKnown(t, 0, 1, NONE, 1, NONE);
        dueKnown(t, 1, NONE, 0, NONE, 0);
    }

    /** The letter between is in the middle: both ways go a part. */
    static void termsOneLetterBetweenIsInTheMiddle() {
        CosetTable t = groupRun(2, "", "aba", 3);
        dueKnown(t, 0, 1, 2, NONE, NONE);
        dueKnown(t, 1, NONE, 0, 2, NONE);
        dueKnown(t, 2, 0, NONE, NONE, 1);
    }

    /** The letter between is the last one: the way back has not begun. */
    static void termsOneLetterBetweenIsTheLast() {
        CosetTable t = groupRun(2, "", "aB", 2);
        dueKnown(t, 0, 1, NONE, 1, NONE);
        dueKnown(t, 1, NONE, 0, NONE, 0);
    }

    /** With two letters between, nothing follows. */
    static void termsTwoLettersBetweenSayNothing() {
        CosetTable t = groupRun(2, "", "aa", 1);
        dueAtFirst(t, 2);
        t = groupRun(2, "", "abba", 3);
        dueKnown(t, 0, 1, 2, NONE, NONE);
        dueKnown(t, 1, NONE, 0, NONE, NONE);
        dueKnown(t, 2, 0, NONE, NONE, NONE);
    }

    /** A word that undoes itself says nothing, be it known to its end or not at all. */
    static void termsWordThatUndoesItselfSaysNothing() {
        CosetTable t = groupRun(1, "aA", "Aa", 1);
        dueAtFirst(t, 1);
        due("run(4)", t.run(4), 4);
        dueCounts(t, 4, 4, 2, 0, NONE, 1, 1);
    }

    /** "If the first way has come to the end: p and c are one." */
    static void termsWayToTheEndMakesOne() {
        CosetTable t = group(1, "", "aa aaa");
        due("run(1)", t.run(1), 1);
        dueKnown(t, 0, NONE, NONE);
        due("run(2)", t.run(2), 2);
        dueCounts(t, 2, 1, 0, 1, 1);
        dueKnown(t, 0, 0, 0);
        dueKnown(t, 1, BAD, BAD);
    }

    /** Where both ways meet with no letter between, p and q are one: else the order would matter. */
    static void termsWaysThatMeetMakeOne() {
        CosetTable t = group(2, "abABB baBAA", "");
        due("run(200)", t.run(200), 10);
        dueCounts(t, 10, 1, 0, 1, 1);
        t = group(3, "a baBAaC bBcB", "");
        due("run(30)", t.run(30), 2);
        dueCounts(t, 2, 1, 0, 1, 1);
    }

    /** "Of cosets that are one only the least name stays." */
    static void termsLeastNameStays() {
        CosetTable t = openWithFallen();
        dueCounts(t, 6, 4, 8, 0, NONE);
        dueKnown(t, 0, 1, 1, 3, 4);
        dueKnown(t, 1, 0, 0, NONE, NONE);
        dueKnown(t, 2, BAD, BAD, BAD, BAD);
        dueKnown(t, 3, NONE, NONE, NONE, 0);
        dueKnown(t, 4, NONE, NONE, 0, NONE);
        dueKnown(t, 5, BAD, BAD, BAD, BAD);
    }

    /** "all that was known of the others is known of that": 2 becomes 1, so 0 (- 1) is 1 and 1 1 is 0. */
    static void termsWhatWasKnownOfOthersStays() {
        CosetTable t = group(1, "", "AaAA");
        due("run(2)", t.run(2), 2);
        dueKnown(t, 0, 1, NONE);
        due("run(3)", t.run(3), 3);
        dueCounts(t, 3, 2, 0, 1, 2);
        dueKnown(t, 0, 1, 1);
        dueKnown(t, 1, 0, 0);
    }

    /** "In whatever order these are done": relators and subgroup words may come in any order, too. */
    static void termsOrderOfDrawingPlaysNoPart() {
        for (int limit = 1; limit <= 4; limit++) {
            String one = state(groupRun(2, "abA BBab", "", limit));
            dueSame("relators, run(" + limit + ")", state(groupRun(2, "BBab abA", "", limit)), one);
            one = state(groupRun(2, "", "abA BA", limit));
            dueSame("subgroup words, run(" + limit + ")", state(groupRun(2, "", "BA abA", limit)), one);
        }
    }

    /** "A step: for the least c": a fallen name, whose letters are not known, is no coset. */
    static void termsStepPassesOverFallenNames() {
        CosetTable t = openWithFallen();
        due("run(9)", t.run(9), 9);
        dueKnown(t, 1, 0, 0, 6, 7);
        dueKnown(t, 3, 8, NONE, NONE, 0);
        dueKnown(t, 2, BAD, BAD, BAD, BAD);
    }

    /** "the name being how many were made in all before": the name of a fallen one is not used again. */
    static void termsNamesAreNotUsedAgain() {
        CosetTable t = openWithFallen();
        due("run(7)", t.run(7), 7);
        due("known(1, 2)", t.known(1, 2), 6);
        due("known(2, 1)", t.known(2, 1), BAD);
        due("known(5, 1)", t.known(5, 1), BAD);
        dueCounts(t, 7, 5);
    }

    /** "for it the first x in the order 1, - 1, 2, - 2, 3, - 3", and then the next coset. */
    static void termsStepsInTheOrderOfLetters() {
        CosetTable t = groupRun(3, "", "", 7);
        dueKnown(t, 0, 1, 2, 3, 4, 5, 6);
        for (int limit = 8; limit <= 12; limit++) {
            due("run(" + limit + ")", t.run(limit), limit);
        }
        dueKnown(t, 1, 7, 0, 8, 9, 10, 11);
        dueKnown(t, 2, 0, NONE, NONE, NONE, NONE, NONE);
    }

    /** "COMPLETE, if for all cosets all letters are known": one open entry is enough to be not. */
    static void termsOneOpenLetterIsNotComplete() {
        CosetTable t = groupRun(1, "", "aa", 1);
        due("run(1)", t.count(3), 0);
        t = groupRun(2, "", "a bb", 1);
        due("0 has 2 open", t.count(2), 2);
        dueIncomplete(t);
        due("run(2)", t.run(2), 2);
        due("1 has 2 open", t.count(2), 2);
        dueIncomplete(t);
    }

    /** "coset 0 has 0; then ... for each letter in the order above, c x gets the next number." */
    static void termsNumbersInTheOrderOfLetters() {
        CosetTable t = groupRun(3, "aaa bbb ccc abAB acAC bcBC", "", 200);
        due("index", t.count(4), 27);
        int[] first = {1, 2, 3, 4, 5, 6};
        int[] ofOne = {2, 0, 7, 8, 9, 10};
        for (int i = 0; i < 6; i++) {
            due("entry(0, " + LETTERS[i] + ")", t.entry(0, LETTERS[i]), first[i]);
            due("entry(1, " + LETTERS[i] + ")", t.entry(1, LETTERS[i]), ofOne[i]);
        }
    }

    // Promise 1: "As behind begin(1)."

    static void promise01NewObjectIsAtFirst() {
        CosetTable t = new CosetTable();
        dueAtFirst(t, 1);
        dueCounts(t, 1, 1, 2, 0, NONE, 0, 0, 0);
    }

    static void promise01NewObjectHasOneGenerator() {
        CosetTable t = new CosetTable();
        due("letter(2)", t.letter(2), BAD);
        due("letter(-2)", t.letter(-2), BAD);
        due("letter(1)", t.letter(1), 1);
        due("letter(-1)", t.letter(-1), 2);
        due("known(0, 2)", t.known(0, 2), BAD);
    }

    static void promise01NewObjectIsAsBehindBegin() {
        CosetTable used = six();
        due("begin(1)", used.begin(1), 0);
        CosetTable t = new CosetTable();
        dueSame("new", state(t), state(used));
        due("run(4)", t.run(4), used.run(4));
        dueSame("run(4)", state(t), state(used));
    }

    // Promise 2: "n generators, no relators, no subgroup words, no word at hand; the table as at
    // first. BAD; else 0", n of 1 .. 3

    static void promise02SmallestN() {
        CosetTable t = six();
        due("begin(1)", t.begin(1), 0);
        dueAtFirst(t, 1);
        due("letter(-1)", t.letter(-1), 1);
        due("letter(2)", t.letter(2), BAD);
    }

    static void promise02LargestN() {
        CosetTable t = six();
        due("begin(3)", t.begin(3), 0);
        dueAtFirst(t, 3);
        due("letter(-3)", t.letter(-3), 1);
        due("letter(3)", t.letter(3), 2);
    }

    static void promise02TooSmallN() {
        for (int n : new int[] {0, -1, -2, -3, LEAST}) {
            due("begin(" + n + ")", new CosetTable().begin(n), BAD);
        }
    }

    static void promise02TooLargeN() {
        for (int n : new int[] {4, 5, MOST}) {
            due("begin(" + n + ")", new CosetTable().begin(n), BAD);
        }
    }

    static void promise02RefusedBeginChangesNothing() {
        for (int n : new int[] {0, 4, LEAST}) {
            CosetTable t = groupRun(2, "aa bbb abab", "a", 200);
            spell(t, "ab");
            String before = state(t);
            due("begin(" + n + ")", t.begin(n), BAD);
            dueSame("begin(" + n + ")", state(t), before);
            due("letter(-2)", t.letter(-2), 3);
            due("letter(3)", t.letter(3), BAD);
        }
    }

    static void promise02NoRelatorsAreLeft() {
        CosetTable t = group(1, "aa", "");
        t.begin(1);
        due("count(5)", t.count(5), 0);
        due("run(9)", t.run(9), 9);
        spell(t, "aaa");
        due("relator()", t.relator(), 1);
        due("run(9)", t.run(9), 3);
    }

    static void promise02NoSubgroupWordsAreLeft() {
        CosetTable t = group(1, "", "aa");
        t.begin(1);
        due("count(6)", t.count(6), 0);
        due("run(9)", t.run(9), 9);
        spell(t, "aaa");
        due("subgroup()", t.subgroup(), 1);
        due("run(9)", t.run(9), 3);
    }

    static void promise02NoWordIsAtHand() {
        CosetTable t = new CosetTable();
        spell(t, A24);
        t.begin(1);
        due("count(7)", t.count(7), 0);
        due("relator()", t.relator(), BAD);
        due("letter(1)", t.letter(1), 1);
    }

    static void promise02TableIsAsAtFirst() {
        CosetTable t = six();
        t.begin(2);
        dueAtFirst(t, 2);
        t.run(9);
        t.begin(2);
        dueAtFirst(t, 2);
    }

    /** Entries of letters that are no more, or were none before, play no part. */
    static void promise02OtherNThanBefore() {
        CosetTable t = groupRun(3, "", "", 200);
        t.begin(1);
        due("run(3)", t.run(3), 3);
        dueCounts(t, 3, 3, 2);
        due("known(0, 2)", t.known(0, 2), BAD);
        t.begin(3);
        due("run(7)", t.run(7), 7);
        dueKnown(t, 0, 1, 2, 3, 4, 5, 6);
    }

    // Promise 3: "A letter comes to the word at hand: how long it is. BAD: no such letter; it has 24."

    static void promise03OutermostLetters() {
        for (int n = 1; n <= 3; n++) {
            CosetTable t = new CosetTable();
            t.begin(n);
            due("letter(" + n + ")", t.letter(n), 1);
            due("letter(" + -n + ")", t.letter(-n), 2);
            due("letter(1)", t.letter(1), 3);
            due("letter(-1)", t.letter(-1), 4);
        }
    }

    static void promise03ZeroIsNoLetter() {
        for (int n = 1; n <= 3; n++) {
            CosetTable t = new CosetTable();
            t.begin(n);
            due("letter(0)", t.letter(0), BAD);
        }
    }

    static void promise03TooLargeIsNoLetter() {
        for (int n = 1; n <= 3; n++) {
            CosetTable t = new CosetTable();
            t.begin(n);
            due("letter(" + (n + 1) + ")", t.letter(n + 1), BAD);
            due("letter(most)", t.letter(MOST), BAD);
        }
    }

    static void promise03TooSmallIsNoLetter() {
        for (int n = 1; n <= 3; n++) {
            CosetTable t = new CosetTable();
            t.begin(n);
            due("letter(" + (-n - 1) + ")", t.letter(-n - 1), BAD);
            due("letter(least)", t.letter(LEAST), BAD);
            due("letter(least + 1)", t.letter(LEAST + 1), BAD);
        }
    }

    static void promise03TwentyFourLettersAndNoMore() {
        CosetTable t = new CosetTable();
        for (int i = 1; i <= 24; i++) {
            due("letter " + i, t.letter(1), i);
        }
        due("letter 25", t.letter(1), BAD);
        due("letter 25", t.letter(-1), BAD);
        due("letter 25, which is none", t.letter(0), BAD);
        due("letter 25, which is none", t.letter(2), BAD);
    }

    static void promise03RefusedLetterChangesNothing() {
        CosetTable t = six();
        spell(t, "ab");
        String before = state(t);
        t.letter(0);
        t.letter(3);
        t.letter(-3);
        dueSame("no letter", state(t), before);
        t = groupRun(1, "", A24, 200);
        spell(t, A24.substring(1) + "A");
        due("move(0)", t.move(0), 4);
        due("letter 25", t.letter(1), BAD);
        due("count(7)", t.count(7), 24);
        due("move(0)", t.move(0), 4);
    }

    static void promise03LetterLeavesTheTable() {
        CosetTable t = six();
        due("letter(1)", t.letter(1), 1);
        dueCounts(t, 6, 6, 0, 1, 6, 3, 0, 1);
    }

    // Promise 4: "The word at hand is empty: how long it was."

    static void promise04ClearOfAnEmptyWord() {
        CosetTable t = new CosetTable();
        due("clear()", t.clear(), 0);
        due("clear()", t.clear(), 0);
    }

    static void promise04ClearOfAFullWord() {
        CosetTable t = new CosetTable();
        spell(t, A24);
        due("clear()", t.clear(), 24);
        due("count(7)", t.count(7), 0);
        due("clear()", t.clear(), 0);
    }

    static void promise04WordIsEmptyBehindClear() {
        CosetTable t = six();
        spell(t, "ab");
        due("clear()", t.clear(), 2);
        due("move(1)", t.move(1), 1);
        due("relator()", t.relator(), BAD);
        due("letter(2)", t.letter(2), 1);
        due("move(0)", t.move(0), 2);
    }

    static void promise04ClearLeavesTheRest() {
        CosetTable t = groupRun(2, "aa bbb abab", "a", 200);
        String before = state(t);
        spell(t, "ab");
        t.clear();
        dueSame("clear()", state(t), before);
    }

    // Promise 5: "The word at hand becomes a relator, and is empty then; the table is as at first:
    // how many there are. BAD: it is empty; there are 10", of 1 .. 24 letters

    static void promise05EmptyWordIsNoRelator() {
        CosetTable t = new CosetTable();
        due("relator()", t.relator(), BAD);
        spell(t, "aa");
        t.clear();
        due("relator() behind clear", t.relator(), BAD);
        due("count(5)", t.count(5), 0);
    }

    static void promise05RelatorOfOneLetter() {
        CosetTable t = new CosetTable();
        spell(t, "A");
        due("relator()", t.relator(), 1);
        due("run(9)", t.run(9), 1);
        due("count(4)", t.count(4), 1);
    }

    static void promise05RelatorOfTwentyFourLetters() {
        CosetTable t = new CosetTable();
        spell(t, A24);
        due("relator()", t.relator(), 1);
        due("run(200)", t.run(200), 24);
        due("count(4)", t.count(4), 24);
    }

    static void promise05WordIsEmptyThen() {
        CosetTable t = new CosetTable();
        spell(t, "aaa");
        due("relator()", t.relator(), 1);
        due("count(7)", t.count(7), 0);
        due("relator()", t.relator(), BAD);
        due("letter(1)", t.letter(1), 1);
    }

    static void promise05RelatorIsNoMoreAtHand() {
        CosetTable t = group(1, "aaa", "");
        spell(t, "aAa");
        due("run(9)", t.run(9), 3);
        due("count(4)", t.count(4), 3);
    }

    static void promise05CompleteTableIsAsAtFirst() {
        CosetTable t = six();
        spell(t, "b");
        due("relator()", t.relator(), 4);
        dueAtFirst(t, 2);
        due("run(200)", t.run(200), 2);
    }

    static void promise05OpenTableIsAsAtFirst() {
        CosetTable t = openWithFallen();
        spell(t, "b");
        due("relator()", t.relator(), 3);
        dueAtFirst(t, 2);
        due("run(200)", t.run(200), 4);
        dueCounts(t, 4, 2, 0, 1, 2);
    }

    static void promise05TenRelatorsAndNoMore() {
        CosetTable t = new CosetTable();
        for (int i = 1; i <= 10; i++) {
            spell(t, i < 10 ? "aaaaaa" : "aaa");
            due("relator " + i, t.relator(), i);
        }
        due("run(200)", t.run(200), 3);
        spell(t, "a");
        due("relator 11", t.relator(), BAD);
        due("relator 12", t.relator(), BAD);
        due("count(5)", t.count(5), 10);
        t.clear();
        due("relator 11, empty", t.relator(), BAD);
    }

    static void promise05RefusedForEmptyChangesNothing() {
        CosetTable t = groupRun(2, "aa bbb abab", "a", 200);
        String before = state(t);
        due("relator()", t.relator(), BAD);
        dueSame("relator()", state(t), before);
    }

    static void promise05RefusedForTenChangesNothing() {
        CosetTable t = groupRun(1, "aaa aaa aaa aaa aaa aaa aaa aaa aaa aaa", "", 200);
        spell(t, "a");
        String before = state(t);
        due("relator()", t.relator(), BAD);
        dueSame("relator()", state(t), before);
        due("run(200)", t.run(200), 3);
        dueSame("run(200)", state(t), before);
        due("subgroup()", t.subgroup(), 1);
    }

    static void promise05SubgroupWordsDoNotCount() {
        CosetTable t = group(1, "", "a a a a a");
        for (int i = 1; i <= 10; i++) {
            t.letter(1);
            due("relator " + i, t.relator(), i);
        }
        due("count(6)", t.count(6), 5);
    }

    // Promise 6: as promise 5, with 5 subgroup words

    static void promise06EmptyWordIsNoSubgroupWord() {
        CosetTable t = new CosetTable();
        due("subgroup()", t.subgroup(), BAD);
        spell(t, "aa");
        t.clear();
        due("subgroup() behind clear", t.subgroup(), BAD);
        due("count(6)", t.count(6), 0);
    }

    static void promise06SubgroupWordOfOneLetter() {
        CosetTable t = new CosetTable();
        spell(t, "A");
        due("subgroup()", t.subgroup(), 1);
        due("run(9)", t.run(9), 1);
        due("count(4)", t.count(4), 1);
    }

    static void promise06SubgroupWordOfTwentyFourLetters() {
        CosetTable t = new CosetTable();
        spell(t, A24);
        due("subgroup()", t.subgroup(), 1);
        due("run(200)", t.run(200), 24);
        due("count(4)", t.count(4), 24);
    }

    static void promise06WordIsEmptyThen() {
        CosetTable t = new CosetTable();
        spell(t, "aaa");
        due("subgroup()", t.subgroup(), 1);
        due("count(7)", t.count(7), 0);
        due("subgroup()", t.subgroup(), BAD);
        due("letter(1)", t.letter(1), 1);
    }

    static void promise06SubgroupWordIsNoMoreAtHand() {
        CosetTable t = group(1, "", "aaa");
        spell(t, "aAa");
        due("run(9)", t.run(9), 3);
        due("count(4)", t.count(4), 3);
    }

    static void promise06CompleteTableIsAsAtFirst() {
        CosetTable t = six();
        spell(t, "b");
        due("subgroup()", t.subgroup(), 1);
        dueAtFirst(t, 2);
        due("run(200)", t.run(200), 2);
    }

    static void promise06OpenTableIsAsAtFirst() {
        CosetTable t = openWithFallen();
        spell(t, "b");
        due("subgroup()", t.subgroup(), 1);
        dueAtFirst(t, 2);
    }

    static void promise06FiveSubgroupWordsAndNoMore() {
        CosetTable t = new CosetTable();
        for (int i = 1; i <= 5; i++) {
            spell(t, i < 5 ? "aaaaaa" : "aaa");
            due("subgroup " + i, t.subgroup(), i);
        }
        due("run(200)", t.run(200), 3);
        spell(t, "a");
        due("subgroup 6", t.subgroup(), BAD);
        due("subgroup 7", t.subgroup(), BAD);
        due("count(6)", t.count(6), 5);
        t.clear();
        due("subgroup 6, empty", t.subgroup(), BAD);
    }

    static void promise06RefusedForEmptyChangesNothing() {
        CosetTable t = groupRun(2, "aa bbb abab", "a", 200);
        String before = state(t);
        due("subgroup()", t.subgroup(), BAD);
        dueSame("subgroup()", state(t), before);
    }

    static void promise06RefusedForFiveChangesNothing() {
        CosetTable t = groupRun(1, "", "aaa aaa aaa aaa aaa", 200);
        spell(t, "a");
        String before = state(t);
        due("subgroup()", t.subgroup(), BAD);
        dueSame("subgroup()", state(t), before);
        due("run(200)", t.run(200), 3);
        dueSame("run(200)", state(t), before);
        due("relator()", t.relator(), 1);
    }

    static void promise06RelatorsDoNotCount() {
        CosetTable t = group(1, "a a a a a a a a a a", "");
        for (int i = 1; i <= 5; i++) {
            t.letter(1);
            due("subgroup " + i, t.subgroup(), i);
        }
        due("count(5)", t.count(5), 10);
    }

    // Promise 7: "What follows follows; then steps, as long as there is one, and fewer than limit
    // cosets were made in all (limit 1 .. 200): how many were made in all, coset 0 too. BAD:
    // another limit."

    static void promise07TooSmallLimit() {
        for (int limit : new int[] {0, -1, -200, LEAST}) {
            due("run(" + limit + ")", new CosetTable().run(limit), BAD);
        }
    }

    static void promise07TooLargeLimit() {
        for (int limit : new int[] {201, 202, MOST}) {
            due("run(" + limit + ")", new CosetTable().run(limit), BAD);
        }
    }

    static void promise07RefusedRunChangesNothing() {
        for (int limit : new int[] {0, 201, LEAST, MOST}) {
            CosetTable t = group(2, "a", "b");
            due("run(" + limit + ")", t.run(limit), BAD);
            dueAtFirst(t, 2);
            t = openWithFallen();
            String before = state(t);
            due("run(" + limit + ")", t.run(limit), BAD);
            dueSame("run(" + limit + ")", state(t), before);
            t = six();
            before = state(t);
            due("run(" + limit + ")", t.run(limit), BAD);
            dueSame("run(" + limit + ")", state(t), before);
        }
    }

    static void promise07SmallestLimitMakesNone() {
        CosetTable t = new CosetTable();
        due("run(1)", t.run(1), 1);
        dueAtFirst(t, 1);
    }

    static void promise07SmallestLimitDrawsWhatFollows() {
        CosetTable t = group(2, "a", "b");
        due("run(1)", t.run(1), 1);
        dueCounts(t, 1, 1, 0, 1, 1);
        t = group(3, "a", "C");
        due("run(1)", t.run(1), 1);
        dueKnown(t, 0, 0, 0, NONE, NONE, 0, 0);
    }

    static void promise07LargestLimit() {
        CosetTable t = new CosetTable();
        t.begin(3);
        due("run(200)", t.run(200), 200);
        dueCounts(t, 200, 200, 200 * 6 - 2 * 199, 0, NONE);
        due("known(199, 1)", t.known(199, 1) == BAD ? 1 : 0, 0);
        due("known(200, 1)", t.known(200, 1), BAD);
        due("run(200)", t.run(200), 200);
    }

    static void promise07LimitIsReachedAndNotPassed() {
        for (int limit = 1; limit <= 200; limit += limit < 5 || limit > 195 ? 1 : 38) {
            CosetTable t = new CosetTable();
            due("run(" + limit + ")", t.run(limit), limit);
            due("count(0)", t.count(0), limit);
        }
    }

    static void promise07LimitBelowWhatWasMade() {
        CosetTable t = groupRun(1, "", "", 5);
        String before = state(t);
        due("run(1)", t.run(1), 5);
        due("run(4)", t.run(4), 5);
        due("run(5)", t.run(5), 5);
        dueSame("run", state(t), before);
    }

    static void promise07FallenOnesWereMadeToo() {
        CosetTable t = openWithFallen();
        due("run(6)", t.run(6), 6);
        dueCounts(t, 6, 4);
        due("run(7)", t.run(7), 7);
        dueCounts(t, 7, 5);
    }

    static void promise07CompleteTableHasNoStep() {
        CosetTable t = six();
        String before = state(t);
        due("run(200)", t.run(200), 6);
        due("run(7)", t.run(7), 6);
        due("run(1)", t.run(1), 6);
        dueSame("run", state(t), before);
    }

    /** The last coset that the limit allows is made, and what follows from it is drawn. */
    static void promise07LastStepMakesItComplete() {
        CosetTable t = group(2, "aa bbb abab", "");
        due("run(5)", t.run(5), 5);
        dueIncomplete(t);
        due("run(6)", t.run(6), 6);
        dueCounts(t, 6, 6, 0, 1, 6);
        t = group(2, "abAB", "aaaaaaaaaaaaaaaaaaaa bbbbbbbbbb");
        due("run(199)", t.run(199), 199);
        dueIncomplete(t);
        due("run(200)", t.run(200), 200);
        dueCounts(t, 200, 200, 0, 1, 200);
    }

    static void promise07NothingFollowsBeforeRun() {
        CosetTable t = group(2, "a b", "a b");
        dueAtFirst(t, 2);
        due("run(1)", t.run(1), 1);
        due("count(3)", t.count(3), 1);
    }

    static void promise07RunInPartsIsOneRun() {
        CosetTable t = group(2, "aaaa aaaaaa", "");
        for (int limit = 1; limit <= 9; limit++) {
            t.run(limit);
        }
        dueSame("in parts", state(t), state(groupRun(2, "aaaa aaaaaa", "", 9)));
    }

    // Promise 8: count

    static void promise08TooSmallNumber() {
        for (int which : new int[] {-1, -2, -8, LEAST}) {
            due("count(" + which + ")", new CosetTable().count(which), BAD);
            due("count(" + which + ")", six().count(which), BAD);
        }
    }

    static void promise08TooLargeNumber() {
        for (int which : new int[] {8, 9, 256, MOST}) {
            due("count(" + which + ")", new CosetTable().count(which), BAD);
            due("count(" + which + ")", six().count(which), BAD);
        }
    }

    /** "0 how many cosets were made, 1 how many the table has". */
    static void promise08MadeAndThere() {
        dueCounts(openWithFallen(), 6, 4);
        dueCounts(completeWithFallen(), 5, 4);
        dueCounts(new CosetTable(), 1, 1);
    }

    /** "2 how many entries (a coset and a letter) are not known": none of a name that has fallen. */
    static void promise08OpenEntries() {
        due("count(2)", openWithFallen().count(2), 8);
        due("count(2)", completeWithFallen().count(2), 0);
        due("count(2)", new CosetTable().count(2), 2);
        due("count(2)", groupRun(3, "", "", 1).count(2), 6);
    }

    /** "3 whether it is complete (1 or 0)". */
    static void promise08Complete() {
        due("count(3)", openWithFallen().count(3), 0);
        due("count(3)", completeWithFallen().count(3), 1);
        due("count(3)", groupRun(2, "aa bbb abab", "", 5).count(3), 0);
    }

    /** "4 the index (NONE, if it is not complete)". */
    static void promise08Index() {
        due("count(4)", openWithFallen().count(4), NONE);
        due("count(4)", new CosetTable().count(4), NONE);
        due("count(4)", completeWithFallen().count(4), 4);
        due("count(4)", groupRun(1, "a", "", 1).count(4), 1);
    }

    /** "5 relators, 6 subgroup words, 7 letters of the word at hand", none and full. */
    static void promise08WordsNoneAndFull() {
        dueCounts(new CosetTable(), 1, 1, 2, 0, NONE, 0, 0, 0);
        CosetTable t = group(1, "a a a a a a a a a a", "a a a a a");
        spell(t, A24);
        dueCounts(t, 1, 1, 2, 0, NONE, 10, 5, 24);
    }

    // Promise 9: "c x by names; NONE, if it is not known. BAD: no such letter; the table has no
    // such coset."

    static void promise09NotKnown() {
        CosetTable t = groupRun(2, "", "", 2);
        dueKnown(t, 0, 1, NONE, NONE, NONE);
        dueKnown(t, 1, NONE, 0, NONE, NONE);
    }

    static void promise09NoSuchLetter() {
        for (int n = 1; n <= 3; n++) {
            CosetTable t = groupRun(n, "", "", 2);
            for (int x : new int[] {0, n + 1, -n - 1, LEAST, MOST}) {
                due("known(0, " + x + ")", t.known(0, x), BAD);
            }
            due("known(0, " + n + ")", t.known(0, n) == BAD ? 1 : 0, 0);
            due("known(0, " + -n + ")", t.known(0, -n) == BAD ? 1 : 0, 0);
        }
    }

    static void promise09NegativeCoset() {
        CosetTable t = groupRun(1, "", "", 3);
        for (int c : new int[] {-1, -2, LEAST}) {
            due("known(" + c + ", 1)", t.known(c, 1), BAD);
        }
    }

    static void promise09CosetNotYetMade() {
        CosetTable t = groupRun(1, "", "", 3);
        due("known(2, -1)", t.known(2, -1), NONE);
        for (int c : new int[] {3, 4, 199, 200, MOST}) {
            due("known(" + c + ", 1)", t.known(c, 1), BAD);
        }
    }

    /** Names that a table had before it was as at first again are no cosets. */
    static void promise09CosetOfAnEarlierTable() {
        CosetTable t = six();
        t.begin(2);
        for (int c = 1; c < 6; c++) {
            due("known(" + c + ", 1)", t.known(c, 1), BAD);
        }
    }

    static void promise09FallenCoset() {
        CosetTable t = openWithFallen();
        dueKnown(t, 2, BAD, BAD, BAD, BAD);
        dueKnown(t, 5, BAD, BAD, BAD, BAD);
        t = completeWithFallen();
        dueKnown(t, 2, BAD, BAD, BAD, BAD);
    }

    static void promise09FullTable() {
        CosetTable t = fullTable();
        due("known(199, 1)", t.known(199, 1) >= 0 ? 1 : 0, 1);
        due("known(200, 1)", t.known(200, 1), BAD);
    }

    static void promise09NeitherCosetNorLetter() {
        CosetTable t = openWithFallen();
        due("known(2, 3)", t.known(2, 3), BAD);
        due("known(-1, 0)", t.known(-1, 0), BAD);
    }

    // Promise 10: "The number of a coset by its name. BAD: the table is not complete, or has no
    // such coset."

    static void promise10NotComplete() {
        CosetTable t = openWithFallen();
        for (int c = -1; c < 7; c++) {
            due("number(" + c + ")", t.number(c), BAD);
        }
        due("number(0)", new CosetTable().number(0), BAD);
    }

    static void promise10ZeroHasZero() {
        due("number(0)", six().number(0), 0);
        due("number(0)", completeWithFallen().number(0), 0);
        due("number(0)", groupRun(1, "a", "", 1).number(0), 0);
    }

    static void promise10NumbersCloseTheGapsOfNames() {
        CosetTable t = completeWithFallen();
        int[] want = {0, 1, BAD, 2, 3, BAD};
        for (int c = 0; c < want.length; c++) {
            due("number(" + c + ")", t.number(c), want[c]);
        }
        t = groupRun(2, "BABB", "aAA", 200);
        int[] other = {0, BAD, 1, 2, BAD};
        for (int c = 0; c < other.length; c++) {
            due("number(" + c + ")", t.number(c), other[c]);
        }
    }

    static void promise10NoSuchCoset() {
        CosetTable t = six();
        due("number(5)", t.number(5), 5);
        for (int c : new int[] {-1, -2, 6, 199, 200, LEAST, MOST}) {
            due("number(" + c + ")", t.number(c), BAD);
        }
    }

    static void promise10FullTable() {
        CosetTable t = fullTable();
        due("number(199)", t.number(199), 199);
        due("number(200)", t.number(200), BAD);
    }

    static void promise10NoMoreCompleteBehindRelator() {
        CosetTable t = six();
        t.letter(1);
        due("number(0)", t.number(0), 0);
        t.relator();
        due("number(0)", t.number(0), BAD);
    }

    // Promise 11: "c x by numbers. BAD: the table is not complete; no such number, or letter."

    static void promise11NotComplete() {
        CosetTable t = openWithFallen();
        due("entry(0, 1)", t.entry(0, 1), BAD);
        due("entry(1, 1)", t.entry(1, 1), BAD);
        due("entry(0, 1)", new CosetTable().entry(0, 1), BAD);
    }

    static void promise11NoSuchNumber() {
        CosetTable t = six();
        due("entry(5, 1)", t.entry(5, 1), 2);
        for (int c : new int[] {-1, -2, 6, 7, 199, 200, LEAST, MOST}) {
            due("entry(" + c + ", 1)", t.entry(c, 1), BAD);
        }
    }

    static void promise11FullTable() {
        CosetTable t = fullTable();
        due("entry(199, 1) and back", t.entry(t.entry(199, 1), -1), 199);
        due("entry(200, 1)", t.entry(200, 1), BAD);
    }

    /** Numbers are no names: the name 2 has fallen and the name 4 is there, but 2 is a number and 4 is none. */
    static void promise11NumbersAreNoNames() {
        CosetTable t = completeWithFallen();
        for (int c = 0; c < 5; c++) {
            for (int i = 0; i < 4 && t.number(c) != BAD; i++) {
                int x = LETTERS[i];
                due("entry of the name " + c, t.entry(t.number(c), x), t.number(t.known(c, x)));
            }
        }
        due("entry(2, 1)", t.entry(2, 1) == BAD ? 1 : 0, 0);
        due("entry(4, 1)", t.entry(4, 1), BAD);
    }

    static void promise11NoSuchLetter() {
        for (int n = 1; n <= 3; n++) {
            CosetTable t = groupRun(n, "a b c", "", 1);
            due("entry(0, " + n + ")", t.entry(0, n), 0);
            due("entry(0, " + -n + ")", t.entry(0, -n), 0);
            for (int x : new int[] {0, n + 1, -n - 1, LEAST, MOST}) {
                due("entry(0, " + x + ")", t.entry(0, x), BAD);
            }
        }
    }

    // Promise 12: "Where the word at hand moves the coset of a number. BAD: the table is not
    // complete, no such number."

    static void promise12NotComplete() {
        CosetTable t = openWithFallen();
        due("empty word: move(0)", t.move(0), BAD);
        t.letter(1);
        due("move(0)", t.move(0), BAD);
    }

    static void promise12EmptyWordMovesNone() {
        CosetTable t = six();
        for (int c = 0; c < 6; c++) {
            due("move(" + c + ")", t.move(c), c);
        }
    }

    static void promise12NoSuchNumber() {
        CosetTable t = six();
        for (int round = 0; round < 2; round++) {
            for (int c : new int[] {-1, -2, 6, 7, 199, 200, LEAST, MOST}) {
                due("move(" + c + ")", t.move(c), BAD);
            }
            word(t, "a");
        }
        due("move(5)", t.move(5), 2);
    }

    /** All 24 letters lead on: a ring of 20, in which every letter counts. */
    static void promise12WordOfTwentyFourLetters() {
        CosetTable t = groupRun(1, "", "aaaaaaaaaaaaaaaaaaaa", 200);
        due("index", t.count(4), 20);
        int c = 0;
        for (int i = 1; i <= 24; i++) {
            t.letter(1);
            c = t.entry(c, 1);
            due(i + " letters: move(0)", t.move(0), c);
        }
        due("letter 25", t.letter(1), BAD);
        due("24 letters: move(0)", t.move(0), c);
    }

    static void promise12FullTable() {
        CosetTable t = fullTable();
        t.letter(1);
        due("move(199)", t.move(199), t.entry(199, 1));
        due("move(200)", t.move(200), BAD);
    }

    static void promise12WordIsReadFromItsFirstLetter() {
        CosetTable t = six();
        spell(t, "ab");
        due("ab: move(0)", t.move(0), 4);
        word(t, "ba");
        due("ba: move(0)", t.move(0), 5);
    }

    static void promise12MoveLeavesTheWord() {
        CosetTable t = six();
        spell(t, "ab");
        due("move(0)", t.move(0), 4);
        due("move(0)", t.move(0), 4);
        due("count(7)", t.count(7), 2);
    }

    // Promise 13: "How many cycles the word at hand has; fixed: how many of them have one coset.
    // BAD: the table is not complete."

    static void promise13NotComplete() {
        CosetTable t = openWithFallen();
        due("cycles(false)", t.cycles(false), BAD);
        due("cycles(true)", t.cycles(true), BAD);
        t.letter(1);
        due("cycles(false)", t.cycles(false), BAD);
        due("cycles(true)", t.cycles(true), BAD);
    }

    static void promise13EmptyWord() {
        CosetTable t = six();
        due("cycles(false)", t.cycles(false), 6);
        due("cycles(true)", t.cycles(true), 6);
    }

    static void promise13OneCoset() {
        CosetTable t = groupRun(1, "a", "", 1);
        t.letter(1);
        due("cycles(false)", t.cycles(false), 1);
        due("cycles(true)", t.cycles(true), 1);
    }

    static void promise13OneCycleOfAll() {
        CosetTable t = fullTable();
        due("index", t.count(4), 200);
        t.letter(1);
        due("cycles(false)", t.cycles(false), 1);
        due("cycles(true)", t.cycles(true), 0);
        t.letter(-1);
        due("cycles(false)", t.cycles(false), 200);
        due("cycles(true)", t.cycles(true), 200);
    }

    static void promise13FixedAreAmongTheCycles() {
        CosetTable t = groupRun(2, "aa bbb abab", "a", 200);
        t.letter(1);
        due("cycles(false)", t.cycles(false), 2);
        due("cycles(true)", t.cycles(true), 1);
        due("count(7)", t.count(7), 1);
    }

    // Promise 14: "How often the word at hand must be done one behind the other so that all cosets
    // are where they were (1 at least). BAD: the table is not complete."

    static void promise14NotComplete() {
        CosetTable t = openWithFallen();
        due("order()", t.order(), BAD);
        t.letter(1);
        due("order()", t.order(), BAD);
    }

    static void promise14OneAtLeast() {
        CosetTable t = six();
        due("empty word: order()", t.order(), 1);
        spell(t, "aa");
        due("a word that moves none: order()", t.order(), 1);
        t = groupRun(1, "a", "", 1);
        t.letter(1);
        due("one coset: order()", t.order(), 1);
    }

    static void promise14OneCycleOfAll() {
        CosetTable t = fullTable();
        t.letter(1);
        due("order()", t.order(), 200);
    }

    /** Cycles of 2 and 3: neither the longest one nor the product of all (12) is the order. */
    static void promise14CyclesOfSeveralLengths() {
        CosetTable t = groupRun(2, "aa bbbbb abababab aBabaBabaBab aBBabbaBBabb", "a Bab BBabb", 200);
        due("index", t.count(4), 5);
        spell(t, "aBBabbBBBabbb");
        due("cycles(false)", t.cycles(false), 2);
        due("order()", t.order(), 6);
        t = six();
        spell(t, "b");
        due("two cycles of 3: order()", t.order(), 3);
    }

    /** "long order()": cycles of 26, 11, 7, 17, 23, 29, 16, 5, 3, 2 and 1, too much for an int. */
    static void promise14BeyondAnInt() {
        CosetTable t = group(2, "aBaaBa bababa BaBaBaBa", "aaaabbaaaa baaBBaaa aabaabaB baaaaaaa");
        due("run(200)", t.run(200), 174);
        due("index", t.count(4), 144);
        spell(t, "BBBabAAABaBBBaabAAAAAA");
        due("cycles(false)", t.cycles(false), 14);
        due("order()", t.order(), 2724081360L);
    }

    // Promise 15: "How many cosets are moved by none of the subgroup words. BAD: the table is not
    // complete."

    static void promise15NotComplete() {
        due("resting()", openWithFallen().resting(), BAD);
        due("resting()", groupRun(2, "", "a", 9).resting(), BAD);
    }

    static void promise15NoSubgroupWords() {
        due("resting()", six().resting(), 6);
    }

    static void promise15OneCoset() {
        due("resting()", groupRun(1, "", "a", 1).resting(), 1);
    }

    static void promise15AllRest() {
        due("resting()", groupRun(2, "abAB aaaa bbbb", "aa bb", 200).resting(), 4);
        due("resting()", groupRun(2, "aa bbb abab", "aa bbb", 200).resting(), 6);
    }

    static void promise15ZeroAloneRests() {
        due("resting()", groupRun(2, "aa bbb abab", "a", 200).resting(), 1);
    }

    /** One word moves 1 and 2 of four, the other 2 and 3: who is moved by one is not at rest. */
    static void promise15MovedByOneOfSeveral() {
        CosetTable t = groupRun(3, "aa bb cc ababab bcbcbc acac", "a b", 200);
        due("index", t.count(4), 4);
        due("resting()", t.resting(), 1);
        due("one word: resting()", groupRun(2, "aa bbb abab", "b", 200).resting(), 2);
    }

    static void promise15WordAtHandPlaysNoPart() {
        CosetTable t = groupRun(2, "aa bbb abab", "b", 200);
        t.letter(1);
        due("resting()", t.resting(), 2);
        due("relators play no part: resting()", groupRun(1, "aaaa", "", 200).resting(), 4);
    }

    static void promise15FullTable() {
        due("resting()", fullTable().resting(), 200);
    }

    /** The last of five words is the one that moves. */
    static void promise15FiveSubgroupWords() {
        due("resting()", groupRun(2, "aa bbb abab", "aa aa aa aa a", 200).resting(), 1);
    }

    // Promise 16: "The lowest number to which a coset is joined: two are joined, if some subgroup
    // word moves one to the other, and so on. BAD: the table is not complete, no such number."

    static void promise16NotComplete() {
        due("orbit(0)", openWithFallen().orbit(0), BAD);
        due("orbit(0)", groupRun(2, "", "a", 9).orbit(0), BAD);
    }

    static void promise16NoSuchNumber() {
        CosetTable t = groupRun(2, "aa bbb abab", "a", 200);
        for (int c : new int[] {-1, -2, 3, 4, 199, 200, LEAST, MOST}) {
            due("orbit(" + c + ")", t.orbit(c), BAD);
        }
    }

    static void promise16NoSubgroupWords() {
        CosetTable t = six();
        for (int c = 0; c < 6; c++) {
            due("orbit(" + c + ")", t.orbit(c), c);
        }
        due("orbit(6)", t.orbit(6), BAD);
    }

    static void promise16JoinedByNoneIsItsOwnLowest() {
        CosetTable t = groupRun(2, "aa bbb abab", "b", 200);
        due("orbit(0)", t.orbit(0), 0);
        due("orbit(1)", t.orbit(1), 1);
    }

    /** Joined holds both ways: from a cycle of three each one comes to the lowest. */
    static void promise16JoinedBothWays() {
        CosetTable t = groupRun(2, "aaa bb ababab", "a", 200);
        due("index", t.count(4), 4);
        due("orbit(0)", t.orbit(0), 0);
        for (int c = 1; c < 4; c++) {
            due("orbit(" + c + ")", t.orbit(c), 1);
        }
    }

    static void promise16FullTable() {
        CosetTable t = fullTable();
        due("orbit(199)", t.orbit(199), 199);
        due("orbit(200)", t.orbit(200), BAD);
    }

    /** "and so on": one word joins 1 and 2, another 2 and 3. */
    static void promise16JoinedThroughSeveralWords() {
        CosetTable t = groupRun(3, "aa bb cc ababab bcbcbc acac", "a b", 200);
        int[] want = {0, 1, 1, 1, BAD};
        for (int c = 0; c < want.length; c++) {
            due("orbit(" + c + ")", t.orbit(c), want[c]);
        }
    }

    static void promise16WordAtHandPlaysNoPart() {
        CosetTable t = groupRun(2, "aa bbb abab", "a", 200);
        t.letter(2);
        due("orbit(0)", t.orbit(0), 0);
        due("orbit(1)", t.orbit(1), 1);
        due("orbit(2)", t.orbit(2), 1);
    }
}
