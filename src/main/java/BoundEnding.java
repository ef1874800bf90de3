/**
 * The best of many objects that stand in lists with scores, found without looking at all of them.
 *
 * <p>Words in capitals are those of the document. Every row is made in a constructor and used again,
 * so that no call makes an object or an array.
 */
public final class BoundEnding {
    public static final int BAD = -1, NONE = -2, FULL = -3;

    private static final int OBJECTS = 512;
    private static final int LISTS = 12;
    private static final int MOST_ENTRIES = 120;
    private static final int MOST_SCORE = 100;
    private static final int BLOCK = 8;
    private static final int MOST_KEY = 1000;
    private static final int ZONE = 16;
    private static final int MOST_WEIGHT = 9;
    private static final int MOST_WANTED = 20;
    private static final int WANTED_AT_FIRST = 10;
    private static final int MOST_SUM = LISTS * MOST_WEIGHT * MOST_SCORE;
    private static final int MOST_WORK = 10000;
    private static final int MOST_FACTOR = 9;

    private static final int LEFT_ASIDE = 0;
    private static final int ASKED = 1;
    private static final int NEEDED = 2;
    private static final int BARRED = 3;

    private static final int AT_ITS_END = 0;
    private static final int EARLY = 1;
    private static final int CUT_OFF = 2;

    /** Where a LIST has no LINE: beyond all OBJECTS, so that it is never the least and never before one. */
    private static final int NO_OBJECT = OBJECTS;
    /** Below all KEYS. */
    private static final int NO_KEY = -MOST_KEY - 1;

    private final Shelf shelf;
    private final Question question;
    private final Ranking held;
    private final LineWalk lineWalk;
    private final KeyScan keyScan;
    private boolean hasAnswers;
    private boolean areByKeys;

    public BoundEnding() {
        Shelf newShelf = new Shelf();
        Question newQuestion = new Question(newShelf);
        Ranking newRanking = new Ranking();
        shelf = newShelf;
        question = newQuestion;
        held = newRanking;
        lineWalk = new LineWalk(newShelf, newQuestion, newRanking);
        keyScan = new KeyScan(newShelf, newQuestion, newRanking);
    }

    // ---- lists

    public int entry(int list, int object, int score) {
        if (!isList(list) || !isObject(object) || !isWithin(score, 1, MOST_SCORE)) {
            return BAD;
        }
        ScoreList entries = shelf.lists[list];
        return entries.put(object, score) ? entries.size : FULL;
    }

    public int lose(int list, int object) {
        if (!isList(list) || !isObject(object)) {
            return BAD;
        }
        ScoreList entries = shelf.lists[list];
        return entries.drop(object) ? entries.size : BAD;
    }

    public int key(int object, int v) {
        if (!isObject(object) || !isWithin(v, -MOST_KEY, MOST_KEY)) {
            return BAD;
        }
        int before = shelf.keyOf[object];
        shelf.keyOf[object] = v;
        return before + MOST_KEY;
    }

    public int top(int list, int k) {
        if (!isList(list)) {
            return BAD;
        }
        ScoreList entries = shelf.lists[list];
        if (k == -1) {
            return entries.greatest();
        }
        return isWithin(k, 0, entries.blocks() - 1) ? entries.greatestOfBlock(k) : BAD;
    }

    // ---- the question

    public int ask(int list, int how, int weight) {
        if (!isList(list) || !isWithin(how, LEFT_ASIDE, BARRED) || !isWithin(weight, 1, MOST_WEIGHT)) {
            return BAD;
        }
        int before = 10 * question.weights[list] + question.sorts[list];
        question.sorts[list] = how;
        question.weights[list] = weight;
        return before;
    }

    public int wanted(int n) {
        if (!isWithin(n, 1, MOST_WANTED)) {
            return BAD;
        }
        int before = question.many;
        question.many = n;
        return before;
    }

    public int place(int sum, int object) {
        boolean tellsNone = sum == -1;
        if (!tellsNone && (!isWithin(sum, 0, MOST_SUM) || !isObject(object))) {
            return BAD;
        }
        int before = question.hasPlace ? 1 : 0;
        question.hasPlace = !tellsNone;
        question.placeSum = sum;
        question.placeObject = object;
        return before;
    }

    public int fits(int object) {
        if (!isObject(object)) {
            return BAD;
        }
        return question.admits(object) ? 1 : 0;
    }

    public int sum(int object) {
        return isObject(object) ? question.sumOf(object) : BAD;
    }

    public int total(int most) {
        if (!isWithin(most, 1, OBJECTS)) {
            return BAD;
        }
        int found = 0;
        for (int object = 0; object < OBJECTS && found < most; object++) {
            if (question.admits(object)) {
                found++;
            }
        }
        return found;
    }

    // ---- answers

    public int walk(int work) {
        if (!isWithin(work, 1, MOST_WORK)) {
            return BAD;
        }
        lineWalk.run(work);
        hasAnswers = true;
        areByKeys = false;
        return held.size;
    }

    public int keys() {
        keyScan.run();
        hasAnswers = true;
        areByKeys = true;
        return held.size;
    }

    public int anew(int m, int f) {
        if (!isWithin(m, 0, MOST_WANTED) || !isWithin(f, -MOST_FACTOR, MOST_FACTOR)) {
            return BAD;
        }
        return hasAnswers ? held.rescore(m, f, areByKeys) : NONE;
    }

    public int answer(int k, int what) {
        if (!isWithin(k, 0, held.size - 1)) {
            return BAD;
        }
        switch (what) {
            case 0: return held.objects[k];
            case 1: return held.numbers[k];
            case 2: return held.sums[k];
            case 3: return held.keysThen[k];
            default: return BAD;
        }
    }

    public int told(int what) {
        switch (what) {
            case 0: return lineWalk.steps;
            case 1: return lineWalk.judged;
            case 2: return lineWalk.skips;
            case 3: return lineWalk.passed;
            case 4: return lineWalk.ending;
            case 5: return lineWalk.lastFloor;
            case 6: return lineWalk.lastLeast;
            case 7: return keyScan.zones;
            case 8: return keyScan.passedBy;
            default: return BAD;
        }
    }

    public int count(int what) {
        if (isList(what)) {
            return shelf.lists[what].size;
        }
        switch (what) {
            case 12: return question.listsOfSort(ASKED) + question.listsOfSort(NEEDED);
            case 13: return question.listsOfSort(NEEDED);
            case 14: return question.listsOfSort(BARRED);
            case 15: return question.many;
            case 16: return held.size;
            case 17: return shelf.objectsInSomeList();
            default: return BAD;
        }
    }

    private static boolean isList(int list) {
        return isWithin(list, 0, LISTS - 1);
    }

    private static boolean isObject(int object) {
        return isWithin(object, 0, OBJECTS - 1);
    }

    private static boolean isWithin(int number, int least, int greatest) {
        return number >= least && number <= greatest;
    }

    /** The ENTRIES of one LIST. */
    private static final class ScoreList {
        /** The OBJECTS that have an ENTRY, rising. */
        private final int[] objects = new int[MOST_ENTRIES];
        /** By OBJECT; 0 where it has no ENTRY, as no SCORE is 0. */
        private final int[] scoreOf = new int[OBJECTS];
        private int size;

        private boolean put(int object, int score) {
            if (scoreOf[object] == 0) {
                if (size >= MOST_ENTRIES) {
                    return false;
                }
                int i = firstFrom(0, object);
                System.arraycopy(objects, i, objects, i + 1, size - i);
                objects[i] = object;
                size++;
            }
            scoreOf[object] = score;
            return true;
        }

        private boolean drop(int object) {
            if (scoreOf[object] == 0) {
                return false;
            }
            int i = firstFrom(0, object);
            System.arraycopy(objects, i + 1, objects, i, size - i - 1);
            size--;
            scoreOf[object] = 0;
            return true;
        }

        /** The first ENTRY, not before start, with this OBJECT or a greater one; size if there is none. */
        private int firstFrom(int start, int object) {
            int i = start;
            while (i < size && objects[i] < object) {
                i++;
            }
            return i;
        }

        private int objectAt(int i) {
            return i >= 0 && i < size ? objects[i] : NO_OBJECT;
        }

        private int blocks() {
            return (size + BLOCK - 1) / BLOCK;
        }

        private int greatest() {
            return greatestBetween(0, size);
        }

        private int greatestOfBlock(int k) {
            return greatestBetween(k * BLOCK, blockEnd(k));
        }

        private int lastOfBlock(int k) {
            return objectAt(blockEnd(k) - 1);
        }

        private int blockEnd(int k) {
            return Math.min(k * BLOCK + BLOCK, size);
        }

        private int greatestBetween(int start, int end) {
            int greatest = 0;
            for (int i = start; i < end; i++) {
                greatest = Math.max(greatest, scoreOf[objects[i]]);
            }
            return greatest;
        }
    }

    /** All LISTS, and the KEYS of all OBJECTS. */
    private static final class Shelf {
        private final ScoreList[] lists = new ScoreList[LISTS];
        private final int[] keyOf = new int[OBJECTS];

        private Shelf() {
            for (int list = 0; list < LISTS; list++) {
                lists[list] = new ScoreList();
            }
        }

        private boolean has(int object) {
            for (int list = 0; list < LISTS; list++) {
                if (lists[list].scoreOf[object] > 0) {
                    return true;
                }
            }
            return false;
        }

        private int objectsInSomeList() {
            int found = 0;
            for (int object = 0; object < OBJECTS; object++) {
                if (has(object)) {
                    found++;
                }
            }
            return found;
        }

        /** NO_KEY if none of these OBJECTS is in some LIST. */
        private int greatestKeyBetween(int start, int end) {
            int greatest = NO_KEY;
            for (int object = start; object < end; object++) {
                if (keyOf[object] > greatest && has(object)) {
                    greatest = keyOf[object];
                }
            }
            return greatest;
        }
    }

    /** THE QUESTION, and what it makes of an OBJECT. */
    private static final class Question {
        private final Shelf shelf;
        private final int[] sorts = new int[LISTS];
        private final int[] weights = new int[LISTS];
        private int many = WANTED_AT_FIRST;
        private boolean hasPlace;
        private int placeSum;
        private int placeObject;

        private Question(Shelf shelf) {
            this.shelf = shelf;
            for (int list = 0; list < LISTS; list++) {
                sorts[list] = LEFT_ASIDE;
                weights[list] = 1;
            }
        }

        private boolean asksFor(int list) {
            return sorts[list] == ASKED || sorts[list] == NEEDED;
        }

        private int listsOfSort(int sort) {
            int found = 0;
            for (int list = 0; list < LISTS; list++) {
                if (sorts[list] == sort) {
                    found++;
                }
            }
            return found;
        }

        private boolean admits(int object) {
            boolean isAskedFor = false;
            for (int list = 0; list < LISTS; list++) {
                boolean isIn = shelf.lists[list].scoreOf[object] > 0;
                if (isIn ? sorts[list] == BARRED : sorts[list] == NEEDED) {
                    return false;
                }
                isAskedFor = isAskedFor || isIn && asksFor(list);
            }
            return isAskedFor;
        }

        private int sumOf(int object) {
            int found = 0;
            for (int list = 0; list < LISTS; list++) {
                if (asksFor(list)) {
                    found += weights[list] * shelf.lists[list].scoreOf[object];
                }
            }
            return found;
        }

        private boolean isBehindPlace(int objectSum, int object) {
            if (!hasPlace || objectSum < placeSum) {
                return true;
            }
            return objectSum == placeSum && object > placeObject;
        }
    }

    /** Those HELD, which stay as the ANSWERS: greater numbers first, of like ones the lesser OBJECT. */
    private static final class Ranking {
        private final int[] objects = new int[MOST_WANTED];
        private final int[] numbers = new int[MOST_WANTED];
        private final int[] sums = new int[MOST_WANTED];
        private final int[] keysThen = new int[MOST_WANTED];
        private int size;
        /** How many may be HELD; kept apart from what is WANTED, which may change while ANSWERS stay. */
        private int room;

        private void begin(int many) {
            size = 0;
            room = Math.min(many, MOST_WANTED);
        }

        private boolean isFull() {
            return size >= room;
        }

        private int leastNumber() {
            return size > 0 ? numbers[size - 1] : 0;
        }

        private void offer(int object, int number, int objectSum, int objectKey) {
            int slot = size;
            if (isFull()) {
                slot = size - 1;
                if (slot < 0 || !isAhead(number, object, slot)) {
                    return;
                }
            } else {
                size++;
            }
            objects[slot] = object;
            numbers[slot] = number;
            sums[slot] = objectSum;
            keysThen[slot] = objectKey;
            rise(slot);
        }

        private int rescore(int m, int f, boolean areByKeys) {
            int those = Math.min(m, size);
            for (int i = 0; i < those; i++) {
                numbers[i] += f * (areByKeys ? sums[i] : keysThen[i]);
            }
            for (int i = 1; i < those; i++) {
                rise(i);
            }
            return those;
        }

        /** Puts the one in this slot in order among those before it, which are in order. */
        private void rise(int slot) {
            for (int i = slot; i > 0 && isAhead(numbers[i], objects[i], i - 1); i--) {
                swap(objects, i);
                swap(numbers, i);
                swap(sums, i);
                swap(keysThen, i);
            }
        }

        private boolean isAhead(int number, int object, int slot) {
            return number > numbers[slot] || number == numbers[slot] && object < objects[slot];
        }

        private static void swap(int[] row, int i) {
            int kept = row[i];
            row[i] = row[i - 1];
            row[i - 1] = kept;
        }
    }

    /** THE WALK, and what is told of the latest one. */
    private static final class LineWalk {
        private final Shelf shelf;
        private final Question question;
        private final Ranking held;
        /** By LIST: the ENTRY at which its LINE stands. */
        private final int[] at = new int[LISTS];
        /** By LIST: WEIGHT times TOP, which no STEP changes. */
        private final int[] bounds = new int[LISTS];
        private int steps;
        private int judged;
        private int skips;
        private int passed;
        private int ending;
        private int lastFloor;
        private int lastLeast;

        private LineWalk(Shelf shelf, Question question, Ranking held) {
            this.shelf = shelf;
            this.question = question;
            this.held = held;
        }

        private void run(int work) {
            begin();
            while (steps < work && ending == CUT_OFF) {
                steps++;
                step();
            }
            lastFloor = floor();
            lastLeast = leastObject();
        }

        private void begin() {
            held.begin(question.many);
            for (int list = 0; list < LISTS; list++) {
                at[list] = 0;
                bounds[list] = question.weights[list] * shelf.lists[list].greatest();
            }
            steps = 0;
            judged = 0;
            skips = 0;
            passed = 0;
            // CUT OFF is how it ends if no STEP tells another end.
            ending = CUT_OFF;
        }

        private void step() {
            if (isAtEnd()) {
                ending = AT_ITS_END;
                return;
            }
            int floor = floor();
            int q = firstAbove(floor);
            if (q == NO_OBJECT) {
                ending = EARLY;
                return;
            }
            int needed = greatestNeeded();
            if (needed > q) {
                jumpAll(needed);
            } else if (boundOfBlocks(q) <= floor) {
                skips++;
                jumpAll(endOfBlocks(q));
            } else if (leastObject() < q) {
                jumpAll(q);
            } else {
                judge(q);
            }
        }

        private int floor() {
            return held.isFull() ? held.leastNumber() : 0;
        }

        /** The OBJECT at which the LINE of this LIST stands; NO_OBJECT if it has none. */
        private int standing(int list) {
            return question.asksFor(list) ? shelf.lists[list].objectAt(at[list]) : NO_OBJECT;
        }

        private int leastObject() {
            int least = NO_OBJECT;
            for (int list = 0; list < LISTS; list++) {
                least = Math.min(least, standing(list));
            }
            return least;
        }

        private boolean isAtEnd() {
            return leastObject() == NO_OBJECT || greatestNeeded() == NO_OBJECT;
        }

        /** Of the LISTS that are NEEDED, the greatest OBJECT of a LINE; -1 if none is NEEDED. */
        private int greatestNeeded() {
            int greatest = -1;
            for (int list = 0; list < LISTS; list++) {
                if (question.sorts[list] == NEEDED) {
                    greatest = Math.max(greatest, standing(list));
                }
            }
            return greatest;
        }

        /**
         * The q of STEP 2; NO_OBJECT if there is none. LINES at like OBJECTS give the same q whichever
         * of them comes first, so they need not be put in order.
         */
        private int firstAbove(int floor) {
            int q = NO_OBJECT;
            for (int list = 0; list < LISTS; list++) {
                int object = standing(list);
                if (object < q && boundUpTo(object) > floor) {
                    q = object;
                }
            }
            return q;
        }

        private int boundUpTo(int object) {
            int bound = 0;
            for (int list = 0; list < LISTS; list++) {
                if (standing(list) <= object) {
                    bound += bounds[list];
                }
            }
            return bound;
        }

        private int boundOfBlocks(int q) {
            int bound = 0;
            for (int list = 0; list < LISTS; list++) {
                int k = blockFor(list, q);
                if (k >= 0) {
                    bound += question.weights[list] * shelf.lists[list].greatestOfBlock(k);
                }
            }
            return bound;
        }

        /** The r of STEP 4: up to it, nothing is in other BLOCKS than those whose bound is told. */
        private int endOfBlocks(int q) {
            int r = NO_OBJECT;
            for (int list = 0; list < LISTS; list++) {
                int object = standing(list);
                int k = blockFor(list, q);
                if (k >= 0) {
                    r = Math.min(r, shelf.lists[list].lastOfBlock(k) + 1);
                } else if (object > q) {
                    r = Math.min(r, object);
                }
            }
            return r;
        }

        /** The BLOCK of which STEP 4 speaks, of a LINE that stands at q or before; -1 if there is none. */
        private int blockFor(int list, int q) {
            if (standing(list) > q) {
                return -1;
            }
            ScoreList entries = shelf.lists[list];
            int i = entries.firstFrom(at[list], q);
            return i < entries.size ? i / BLOCK : -1;
        }

        private void jumpAll(int r) {
            for (int list = 0; list < LISTS; list++) {
                if (standing(list) < r) {
                    int to = shelf.lists[list].firstFrom(at[list], r);
                    passed += to - at[list];
                    at[list] = to;
                }
            }
        }

        private void judge(int q) {
            judged++;
            int objectSum = question.sumOf(q);
            if (question.admits(q) && question.isBehindPlace(objectSum, q)) {
                held.offer(q, objectSum, objectSum, shelf.keyOf[q]);
            }
            for (int list = 0; list < LISTS; list++) {
                if (standing(list) == q) {
                    at[list]++;
                }
            }
        }
    }

    /** The way BY KEYS, and what is told of the latest one. */
    private static final class KeyScan {
        private final Shelf shelf;
        private final Question question;
        private final Ranking held;
        private int zones;
        private int passedBy;

        private KeyScan(Shelf shelf, Question question, Ranking held) {
            this.shelf = shelf;
            this.question = question;
            this.held = held;
        }

        private void run() {
            held.begin(question.many);
            zones = 0;
            passedBy = 0;
            for (int start = 0; start < OBJECTS; start += ZONE) {
                int greatest = shelf.greatestKeyBetween(start, start + ZONE);
                if (greatest != NO_KEY) {
                    zones++;
                    goThrough(start, greatest);
                }
            }
        }

        private void goThrough(int start, int greatest) {
            if (held.isFull() && greatest <= held.leastNumber()) {
                passedBy++;
                return;
            }
            for (int object = start; object < start + ZONE; object++) {
                if (question.admits(object)) {
                    int objectKey = shelf.keyOf[object];
                    held.offer(object, objectKey, question.sumOf(object), objectKey);
                }
            }
        }
    }
}
