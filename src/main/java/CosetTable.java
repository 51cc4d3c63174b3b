import java.util.Arrays;

/**
 * Cosets of a subgroup in a group that is given by generators and relators, made one by one, and
 * the group's action on them when the table is complete.
 *
 * <p>Inside, a letter is a column: 1, -1, 2, -2, 3, -3 are the columns 0 to 5, so that the columns
 * stand in the order in which the document looks at letters, and column ^ 1 is the inverse letter.
 */
public final class CosetTable {
    public static final int BAD = -1, NONE = -2;

    private static final int MAX_GENERATORS = 3;
    private static final int MAX_LETTERS = 24;
    private static final int MAX_RELATORS = 10;
    private static final int MAX_SUBGROUP_WORDS = 5;
    private static final int MAX_COSETS = 200;
    private static final int COLUMNS = 2 * MAX_GENERATORS;
    private static final int MAX_ENTRIES = MAX_COSETS * COLUMNS;
    private static final int UNKNOWN = -1;
    /** An end for loops whose work runs out long before: a run sets fewer than 5,000 entries. */
    private static final int FAR = 1000000;

    private final Word hand;
    private final WordList relators;
    private final WordList subgroupWords;
    private final Cosets cosets;
    private final Inference inference;
    private final Action action;
    private int generators;

    public CosetTable() {
        hand = new Word();
        relators = new WordList(MAX_RELATORS);
        subgroupWords = new WordList(MAX_SUBGROUP_WORDS);
        cosets = new Cosets();
        inference = new Inference(cosets, relators, subgroupWords);
        action = new Action(cosets, subgroupWords);
        generators = 1;
        startTable();
    }

    public int begin(int n) {
        if (n < 1 || n > MAX_GENERATORS) {
            return BAD;
        }
        generators = n;
        relators.size = 0;
        subgroupWords.size = 0;
        hand.length = 0;
        startTable();
        return 0;
    }

    public int letter(int x) {
        if (!isLetter(x) || hand.length == MAX_LETTERS) {
            return BAD;
        }
        hand.append(columnOf(x));
        return hand.length;
    }

    public int clear() {
        int length = hand.length;
        hand.length = 0;
        return length;
    }

    public int relator() {
        return giveHandTo(relators);
    }

    public int subgroup() {
        return giveHandTo(subgroupWords);
    }

    public int run(int limit) {
        if (limit < 1 || limit > MAX_COSETS) {
            return BAD;
        }
        inference.drawFrom(0);
        for (int made = cosets.made; made < limit && cosets.findOpen(); made++) {
            inference.drawFrom(cosets.makeNeighbour());
        }
        if (!cosets.findOpen()) {
            action.giveNumbers();
        }
        return cosets.made;
    }

    public int count(int which) {
        switch (which) {
            case 0: return cosets.made;
            case 1: return cosets.living;
            case 2: return cosets.countOpen();
            case 3: return action.isReady() ? 1 : 0;
            case 4: return action.isReady() ? action.size : NONE;
            case 5: return relators.size;
            case 6: return subgroupWords.size;
            case 7: return hand.length;
            default: return BAD;
        }
    }

    public int known(int c, int x) {
        if (!isLetter(x) || !cosets.lives(c)) {
            return BAD;
        }
        int d = cosets.at(c, columnOf(x));
        return d == UNKNOWN ? NONE : d;
    }

    public int number(int c) {
        if (!action.isReady() || !cosets.lives(c)) {
            return BAD;
        }
        return action.numbers[c];
    }

    public int entry(int c, int x) {
        if (!action.hasNumber(c) || !isLetter(x)) {
            return BAD;
        }
        return action.letterImage(c, columnOf(x));
    }

    public int move(int c) {
        return action.hasNumber(c) ? action.image(c, hand) : BAD;
    }

    public int cycles(boolean fixed) {
        return action.isReady() ? action.countCycles(hand, fixed) : BAD;
    }

    public long order() {
        return action.isReady() ? action.orderOf(hand) : BAD;
    }

    public int resting() {
        return action.isReady() ? action.countResting() : BAD;
    }

    public int orbit(int c) {
        return action.hasNumber(c) ? action.lowestJoined(c) : BAD;
    }

    private boolean isLetter(int x) {
        return x != 0 && x >= -generators && x <= generators;
    }

    private static int columnOf(int x) {
        return x > 0 ? 2 * (x - 1) : 2 * (-x - 1) + 1;
    }

    private void startTable() {
        cosets.start(2 * generators);
        action.size = 0;
    }

    private int giveHandTo(WordList list) {
        if (hand.length == 0 || list.isFull()) {
            return BAD;
        }
        list.add(hand);
        hand.length = 0;
        startTable();
        return list.size;
    }

    /** A row of letters, as columns. */
    private static final class Word {
        private final int[] columns = new int[MAX_LETTERS];
        private int length;

        void append(int column) {
            columns[length] = column;
            length++;
        }

        void copyFrom(Word other) {
            System.arraycopy(other.columns, 0, columns, 0, other.length);
            length = other.length;
        }

        /** The letter at a place of the ring that the word is when its end is joined to its start. */
        int around(int place) {
            return columns[place < length ? place : place - length];
        }
    }

    /** Words up to a limit; their rows are made once and used again. */
    private static final class WordList {
        private final Word[] words;
        private int size;

        WordList(int limit) {
            words = new Word[limit];
            for (int i = 0; i < limit; i++) {
                words[i] = new Word();
            }
        }

        boolean isFull() {
            return size == words.length;
        }

        void add(Word word) {
            words[size].copyFrom(word);
            size++;
        }
    }

    /** The cosets by their names, what is known of them, and which of them are one. */
    private static final class Cosets {
        private final int[] entries = new int[MAX_ENTRIES];
        /** For each name the least one of the same coset. */
        private final int[] leaders = new int[MAX_COSETS];
        /** Names that were given up and whose entries have yet to go to their leaders. */
        private final int[] fallen = new int[MAX_COSETS];
        private int fallenCount;
        /** Places of entries that were set and not yet looked at, each once at most. */
        private final int[] fresh = new int[MAX_ENTRIES];
        private final boolean[] isFresh = new boolean[MAX_ENTRIES];
        private int freshCount;
        /** No place before this one is open; it never goes back, as nothing known is forgotten. */
        private int open;
        private int columns;
        private int made;
        private int living;

        /** Nothing is fresh here: every run looks at all that it sets. */
        void start(int columnCount) {
            columns = columnCount;
            made = 0;
            living = 0;
            open = 0;
            make();
        }

        private int make() {
            int c = made;
            for (int x = 0; x < COLUMNS; x++) {
                entries[c * COLUMNS + x] = UNKNOWN;
            }
            leaders[c] = c;
            made++;
            living++;
            return c;
        }

        /** Whether there is an unknown entry; the first one is where the next coset is made. */
        boolean findOpen() {
            while (open < made * COLUMNS && !isOpen(open)) {
                open++;
            }
            return open < made * COLUMNS;
        }

        private boolean isOpen(int place) {
            return place % COLUMNS < columns && lives(place / COLUMNS) && entries[place] == UNKNOWN;
        }

        /** A new coset where findOpen came to; run's limit sees to it that there is room. */
        int makeNeighbour() {
            int d = make();
            join(open / COLUMNS, open % COLUMNS, d);
            return d;
        }

        boolean lives(int c) {
            return c >= 0 && c < made && leaders[c] == c;
        }

        int at(int c, int column) {
            return entries[c * COLUMNS + column];
        }

        int countOpen() {
            int found = 0;
            for (int place = 0; place < made * COLUMNS; place++) {
                if (isOpen(place)) {
                    found++;
                }
            }
            return found;
        }

        int takeFresh() {
            freshCount--;
            isFresh[fresh[freshCount]] = false;
            return fresh[freshCount];
        }

        /** Sets c x = d and its inverse, neither of which is known so far. */
        void join(int c, int x, int d) {
            int place = c * COLUMNS + x;
            entries[place] = d;
            entries[d * COLUMNS + (x ^ 1)] = c;
            if (!isFresh[place]) {
                isFresh[place] = true;
                fresh[freshCount] = place;
                freshCount++;
            }
        }

        /** Two names turn out to be one coset, and with them all that this makes one. */
        void unite(int c, int d) {
            fallenCount = 0;
            fall(c, d);
            for (int i = 0; i < fallenCount && i < MAX_COSETS; i++) {
                handOver(fallen[i]);
            }
        }

        private void fall(int c, int d) {
            if (leaders[c] == leaders[d]) {
                return;
            }
            int low = leaders[c] < leaders[d] ? leaders[c] : leaders[d];
            int high = leaders[c] < leaders[d] ? leaders[d] : leaders[c];
            for (int i = high; i < made; i++) {
                if (leaders[i] == high) {
                    leaders[i] = low;
                }
            }
            fallen[fallenCount] = high;
            fallenCount++;
            living--;
        }

        private void handOver(int c) {
            for (int x = 0; x < columns; x++) {
                int d = at(c, x);
                if (d == UNKNOWN) {
                    continue;
                }
                entries[c * COLUMNS + x] = UNKNOWN;
                entries[d * COLUMNS + (x ^ 1)] = UNKNOWN;
                int from = leaders[c];
                int to = leaders[d];
                if (at(from, x) != UNKNOWN) {
                    fall(at(from, x), to);
                } else if (at(to, x ^ 1) != UNKNOWN) {
                    fall(at(to, x ^ 1), from);
                } else {
                    join(from, x, to);
                }
            }
        }
    }

    /** Draws what follows from the relators and the subgroup words. */
    private static final class Inference {
        private final Cosets cosets;
        private final WordList relators;
        private final WordList subgroupWords;

        Inference(Cosets cosets, WordList relators, WordList subgroupWords) {
            this.cosets = cosets;
            this.relators = relators;
            this.subgroupWords = subgroupWords;
        }

        /**
         * Draws all that follows. Fresh entries tell where to look, but for the newest coset, where
         * a relator of one letter says something even if no entry with that letter was set.
         */
        void drawFrom(int newest) {
            for (int i = 0; i < relators.size && cosets.lives(newest); i++) {
                close(relators.words[i], 0, newest);
            }
            drawFromSubgroup();
            for (int i = 0; i < FAR && cosets.freshCount > 0; i++) {
                int place = cosets.takeFresh();
                for (int k = 0; k < relators.size; k++) {
                    drawThrough(place / COLUMNS, place % COLUMNS, relators.words[k]);
                }
                if (cosets.freshCount == 0) {
                    drawFromSubgroup();
                }
            }
        }

        private void drawFromSubgroup() {
            for (int i = 0; i < subgroupWords.size; i++) {
                close(subgroupWords.words[i], 0, 0);
            }
        }

        /**
         * The relator is followed through the entry c x wherever it has that letter: what is drawn
         * from a ring of cosets is the same at whatever place of the ring it is begun. If the entry
         * goes away meanwhile, what took its place is fresh and gets its own turn.
         */
        private void drawThrough(int c, int x, Word relator) {
            for (int start = 0; start < relator.length; start++) {
                int d = cosets.at(c, x);
                if (d == UNKNOWN) {
                    return;
                }
                if (relator.columns[start] == x) {
                    close(relator, start, c);
                } else if (relator.columns[start] == (x ^ 1)) {
                    close(relator, start, d);
                }
            }
        }

        /**
         * The word, begun at a place and going around, leads from c to c. The way back stops one
         * letter before the way there. If that letter is known from behind, both ways would meet,
         * and where they meet is one coset: otherwise the order of drawing would matter.
         */
        private void close(Word word, int start, int c) {
            int p = c;
            int front = 0;
            while (front < word.length && cosets.at(p, word.around(start + front)) != UNKNOWN) {
                p = cosets.at(p, word.around(start + front));
                front++;
            }
            if (front == word.length) {
                cosets.unite(p, c);
                return;
            }
            int q = c;
            for (int back = word.length - 1; back > front; back--) {
                q = cosets.at(q, word.around(start + back) ^ 1);
                if (q == UNKNOWN) {
                    return;
                }
            }
            int x = word.around(start + front);
            int met = cosets.at(q, x ^ 1);
            if (met == UNKNOWN) {
                cosets.join(p, x, q);
            } else {
                cosets.unite(met, p);
            }
        }
    }

    /** The action on the cosets of a complete table, by their numbers. */
    private static final class Action {
        private final Cosets cosets;
        private final WordList subgroupWords;
        private final int[] numbers = new int[MAX_COSETS];
        private final int[] names = new int[MAX_COSETS];
        private final boolean[] seen = new boolean[MAX_COSETS];
        private final int[] reached = new int[MAX_COSETS];
        /** How many cosets have numbers: 0 as long as the table is not complete. */
        private int size;

        Action(Cosets cosets, WordList subgroupWords) {
            this.cosets = cosets;
            this.subgroupWords = subgroupWords;
        }

        boolean isReady() {
            return size > 0;
        }

        boolean hasNumber(int c) {
            return c >= 0 && c < size;
        }

        void giveNumbers() {
            Arrays.fill(numbers, UNKNOWN);
            size = 0;
            giveNextNumber(0);
            for (int c = 0; c < size && c < MAX_COSETS; c++) {
                for (int x = 0; x < cosets.columns; x++) {
                    giveNextNumber(cosets.at(names[c], x));
                }
            }
        }

        private void giveNextNumber(int name) {
            if (numbers[name] == UNKNOWN) {
                numbers[name] = size;
                names[size] = name;
                size++;
            }
        }

        int letterImage(int c, int x) {
            return numbers[cosets.at(names[c], x)];
        }

        int image(int c, Word word) {
            int name = names[c];
            for (int i = 0; i < word.length; i++) {
                name = cosets.at(name, word.columns[i]);
            }
            return numbers[name];
        }

        int countCycles(Word word, boolean onlyFixed) {
            forgetSeen();
            int found = 0;
            for (int c = 0; c < size; c++) {
                int length = seeCycle(word, c);
                if (onlyFixed ? length == 1 : length > 0) {
                    found++;
                }
            }
            return found;
        }

        long orderOf(Word word) {
            forgetSeen();
            long multiple = 1;
            for (int c = 0; c < size; c++) {
                int length = seeCycle(word, c);
                if (length > 0) {
                    multiple = leastCommonMultiple(multiple, length);
                }
            }
            return multiple;
        }

        private void forgetSeen() {
            for (int c = 0; c < size; c++) {
                seen[c] = false;
            }
        }

        /** How long the cycle of c is; 0, if it was seen before. */
        private int seeCycle(Word word, int c) {
            int length = 0;
            for (int d = c; length < size && !seen[d]; d = image(d, word)) {
                seen[d] = true;
                length++;
            }
            return length;
        }

        int countResting() {
            int found = 0;
            for (int c = 0; c < size; c++) {
                if (rests(c)) {
                    found++;
                }
            }
            return found;
        }

        private boolean rests(int c) {
            for (int i = 0; i < subgroupWords.size; i++) {
                if (image(c, subgroupWords.words[i]) != c) {
                    return false;
                }
            }
            return true;
        }

        /** Going on by the words alone reaches all that is joined, for each of their cycles is closed. */
        int lowestJoined(int c) {
            forgetSeen();
            seen[c] = true;
            reached[0] = c;
            int reachedCount = 1;
            int lowest = c;
            for (int i = 0; i < reachedCount && i < size; i++) {
                for (int k = 0; k < subgroupWords.size; k++) {
                    int d = image(reached[i], subgroupWords.words[k]);
                    if (!seen[d]) {
                        seen[d] = true;
                        reached[reachedCount] = d;
                        reachedCount++;
                        lowest = Math.min(lowest, d);
                    }
                }
            }
            return lowest;
        }

        private static long leastCommonMultiple(long a, long b) {
            long divisor = a;
            long rest = b;
            for (int i = 0; i < FAR && rest > 0; i++) {
                long next = divisor % rest;
                divisor = rest;
                rest = next;
            }
            return divisor > 0 ? a / divisor * b : a;
        }
    }
}
