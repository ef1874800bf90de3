/** For each promise of the document: ordinary inputs, its edges, wrong inputs. Worked out by hand. */
public final class PromiseTest {
    private static final int[] WRONG = {Integer.MIN_VALUE, Integer.MIN_VALUE + 1, -20000, 20000, Integer.MAX_VALUE};

    private static int wrong = 0;
    private static String part = "";

    private static void due(String call, int got, int want) {
        if (got != want) {
            wrong++;
            System.out.println(part + ": " + call + " answered " + got + ", due is " + want);
        }
    }

    /** Asks told(0 ..) of the latest walk(). */
    private static void dueTold(BoundEnding x, int... want) {
        for (int what = 0; what < want.length; what++) {
            due("told(" + what + ")", x.told(what), want[what]);
        }
    }

    /** Asks for all OBJECTS of the ANSWERS. */
    private static void dueObjects(BoundEnding x, int... want) {
        due("count(16)", x.count(16), want.length);
        for (int k = 0; k < want.length; k++) {
            due("answer(" + k + ", 0)", x.answer(k, 0), want[k]);
        }
        due("answer(" + want.length + ", 0)", x.answer(want.length, 0), BoundEnding.BAD);
    }

    private static void dueNumbers(BoundEnding x, int... want) {
        for (int k = 0; k < want.length; k++) {
            due("answer(" + k + ", 1)", x.answer(k, 1), want[k]);
        }
    }

    /** Pairs of OBJECT and SCORE. */
    private static void fill(BoundEnding x, int list, int... pairs) {
        for (int i = 0; i + 1 < pairs.length; i += 2) {
            x.entry(list, pairs[i], pairs[i + 1]);
        }
    }

    private static void newObject() {
        part = "1 a new object";
        BoundEnding x = new BoundEnding();
        due("BAD", BoundEnding.BAD, -1);
        due("NONE", BoundEnding.NONE, -2);
        due("FULL", BoundEnding.FULL, -3);
        for (int what = 0; what <= 17; what++) {
            due("count(" + what + ")", x.count(what), what == 15 ? 10 : 0);
        }
        for (int what = 0; what <= 8; what++) {
            due("told(" + what + ")", x.told(what), 0);
        }
        due("answer(0, 0)", x.answer(0, 0), BoundEnding.BAD);
        due("anew(0, 0)", x.anew(0, 0), BoundEnding.NONE);
        due("total(512)", x.total(512), 0);
        due("place(-1, 0)", x.place(-1, 0), 0);
        for (int list = 0; list < 12; list++) {
            due("top(" + list + ", -1)", x.top(list, -1), 0);
            due("top(" + list + ", 0)", x.top(list, 0), BoundEnding.BAD);
            due("ask(" + list + ", 0, 1)", x.ask(list, 0, 1), 10);
        }
        due("key(0, 0)", x.key(0, 0), 1000);
        due("key(511, 0)", x.key(511, 0), 1000);
        due("fits(0)", x.fits(0), 0);
        due("sum(0)", x.sum(0), 0);
        BoundEnding y = new BoundEnding();
        x.entry(0, 0, 1);
        due("count(0) of another object", y.count(0), 0);
    }

    private static void entry() {
        part = "2 entry";
        BoundEnding x = new BoundEnding();
        due("entry(0, 0, 1)", x.entry(0, 0, 1), 1);
        due("entry(11, 511, 100)", x.entry(11, 511, 100), 1);
        due("entry(0, 511, 100)", x.entry(0, 511, 100), 2);
        due("entry(0, 0, 7)", x.entry(0, 0, 7), 2);
        x.ask(0, 1, 1);
        due("sum(0)", x.sum(0), 7);
        due("entry(-1, 0, 1)", x.entry(-1, 0, 1), BoundEnding.BAD);
        due("entry(12, 0, 1)", x.entry(12, 0, 1), BoundEnding.BAD);
        due("entry(0, -1, 1)", x.entry(0, -1, 1), BoundEnding.BAD);
        due("entry(0, 512, 1)", x.entry(0, 512, 1), BoundEnding.BAD);
        due("entry(0, 0, 0)", x.entry(0, 0, 0), BoundEnding.BAD);
        due("entry(0, 0, 101)", x.entry(0, 0, 101), BoundEnding.BAD);
        for (int bad : WRONG) {
            due("entry(bad, 0, 1)", x.entry(bad, 0, 1), BoundEnding.BAD);
            due("entry(0, bad, 1)", x.entry(0, bad, 1), BoundEnding.BAD);
            due("entry(0, 0, bad)", x.entry(0, 0, bad), BoundEnding.BAD);
        }
        due("sum(0)", x.sum(0), 7);
        due("count(0)", x.count(0), 2);
        for (int i = 0; i < 118; i++) {
            due("entry(0, " + (300 - i) + ", 3)", x.entry(0, 300 - i, 3), 3 + i);
        }
        due("entry(0, 400, 5) to 120", x.entry(0, 400, 5), BoundEnding.FULL);
        due("entry(0, 512, 5) to 120", x.entry(0, 512, 5), BoundEnding.BAD);
        due("entry(0, 511, 5) to 120", x.entry(0, 511, 5), 120);
        due("sum(511)", x.sum(511), 5);
        due("sum(400)", x.sum(400), 0);
        due("entry(1, 400, 5)", x.entry(1, 400, 5), 1);
        due("lose(0, 300)", x.lose(0, 300), 119);
        due("entry(0, 400, 5) to 119", x.entry(0, 400, 5), 120);
        due("top(0, 14)", x.top(0, 14), 5);
    }

    private static void lose() {
        part = "3 lose";
        BoundEnding x = new BoundEnding();
        fill(x, 2, 4, 10, 8, 20, 6, 30);
        due("lose(2, 5)", x.lose(2, 5), BoundEnding.BAD);
        due("lose(3, 4)", x.lose(3, 4), BoundEnding.BAD);
        due("lose(-1, 4)", x.lose(-1, 4), BoundEnding.BAD);
        due("lose(12, 4)", x.lose(12, 4), BoundEnding.BAD);
        due("lose(2, -1)", x.lose(2, -1), BoundEnding.BAD);
        due("lose(2, 512)", x.lose(2, 512), BoundEnding.BAD);
        for (int bad : WRONG) {
            due("lose(bad, 4)", x.lose(bad, 4), BoundEnding.BAD);
            due("lose(2, bad)", x.lose(2, bad), BoundEnding.BAD);
        }
        due("lose(2, 6)", x.lose(2, 6), 2);
        due("top(2, -1)", x.top(2, -1), 20);
        due("lose(2, 6)", x.lose(2, 6), BoundEnding.BAD);
        due("lose(2, 8)", x.lose(2, 8), 1);
        due("lose(2, 4)", x.lose(2, 4), 0);
        due("lose(2, 4)", x.lose(2, 4), BoundEnding.BAD);
        due("count(2)", x.count(2), 0);
        due("count(17)", x.count(17), 0);
        due("top(2, -1)", x.top(2, -1), 0);
        due("entry(2, 4, 1)", x.entry(2, 4, 1), 1);
        due("top(2, 0)", x.top(2, 0), 1);
    }

    private static void key() {
        part = "4 key";
        BoundEnding x = new BoundEnding();
        due("key(0, 1000)", x.key(0, 1000), 1000);
        due("key(0, -1000)", x.key(0, -1000), 2000);
        due("key(0, 5)", x.key(0, 5), 0);
        due("key(511, -3)", x.key(511, -3), 1000);
        due("key(511, 0)", x.key(511, 0), 997);
        due("key(0, 1001)", x.key(0, 1001), BoundEnding.BAD);
        due("key(0, -1001)", x.key(0, -1001), BoundEnding.BAD);
        due("key(-1, 0)", x.key(-1, 0), BoundEnding.BAD);
        due("key(512, 0)", x.key(512, 0), BoundEnding.BAD);
        for (int bad : WRONG) {
            due("key(bad, 0)", x.key(bad, 0), BoundEnding.BAD);
            due("key(0, bad)", x.key(0, bad), BoundEnding.BAD);
        }
        due("key(0, 5)", x.key(0, 5), 1005);
    }

    private static void top() {
        part = "5 top";
        BoundEnding x = new BoundEnding();
        for (int i = 16; i >= 0; i--) {
            x.entry(7, 10 * i, 1 + i);
        }
        due("top(7, -1)", x.top(7, -1), 17);
        due("top(7, 0)", x.top(7, 0), 8);
        due("top(7, 1)", x.top(7, 1), 16);
        due("top(7, 2)", x.top(7, 2), 17);
        due("top(7, 3)", x.top(7, 3), BoundEnding.BAD);
        due("top(7, -2)", x.top(7, -2), BoundEnding.BAD);
        due("top(-1, -1)", x.top(-1, -1), BoundEnding.BAD);
        due("top(12, -1)", x.top(12, -1), BoundEnding.BAD);
        for (int bad : WRONG) {
            due("top(bad, 0)", x.top(bad, 0), BoundEnding.BAD);
            due("top(7, bad)", x.top(7, bad), BoundEnding.BAD);
        }
        // BLOCKS are counted from the first ENTRY on: all move up when it goes, and down when one comes.
        x.lose(7, 0);
        due("top(7, 0)", x.top(7, 0), 9);
        due("top(7, 1)", x.top(7, 1), 17);
        due("top(7, 2)", x.top(7, 2), BoundEnding.BAD);
        x.entry(7, 1, 100);
        x.entry(7, 2, 1);
        due("top(7, 0)", x.top(7, 0), 100);
        due("top(7, 1)", x.top(7, 1), 15);
        due("top(7, 2)", x.top(7, 2), 17);
        x.entry(7, 1, 1);
        due("top(7, 0)", x.top(7, 0), 7);
        due("top(7, -1)", x.top(7, -1), 17);
    }

    private static void ask() {
        part = "6 ask";
        BoundEnding x = new BoundEnding();
        due("ask(0, 1, 9)", x.ask(0, 1, 9), 10);
        due("ask(0, 2, 3)", x.ask(0, 2, 3), 91);
        due("ask(0, 3, 4)", x.ask(0, 3, 4), 32);
        due("ask(0, 0, 5)", x.ask(0, 0, 5), 43);
        due("ask(0, 0, 1)", x.ask(0, 0, 1), 50);
        due("ask(11, 1, 1)", x.ask(11, 1, 1), 10);
        due("ask(-1, 1, 1)", x.ask(-1, 1, 1), BoundEnding.BAD);
        due("ask(12, 1, 1)", x.ask(12, 1, 1), BoundEnding.BAD);
        due("ask(0, -1, 1)", x.ask(0, -1, 1), BoundEnding.BAD);
        due("ask(0, 4, 1)", x.ask(0, 4, 1), BoundEnding.BAD);
        due("ask(0, 1, 0)", x.ask(0, 1, 0), BoundEnding.BAD);
        due("ask(0, 1, 10)", x.ask(0, 1, 10), BoundEnding.BAD);
        due("ask(0, 0, 0)", x.ask(0, 0, 0), BoundEnding.BAD);
        for (int bad : WRONG) {
            due("ask(bad, 1, 1)", x.ask(bad, 1, 1), BoundEnding.BAD);
            due("ask(0, bad, 1)", x.ask(0, bad, 1), BoundEnding.BAD);
            due("ask(0, 1, bad)", x.ask(0, 1, bad), BoundEnding.BAD);
        }
        due("ask(0, 0, 1)", x.ask(0, 0, 1), 10);
    }

    private static void wanted() {
        part = "7 wanted";
        BoundEnding x = new BoundEnding();
        due("wanted(1)", x.wanted(1), 10);
        due("wanted(20)", x.wanted(20), 1);
        due("wanted(0)", x.wanted(0), BoundEnding.BAD);
        due("wanted(21)", x.wanted(21), BoundEnding.BAD);
        for (int bad : WRONG) {
            due("wanted(bad)", x.wanted(bad), BoundEnding.BAD);
        }
        due("wanted(3)", x.wanted(3), 20);
        for (int object = 0; object < 30; object++) {
            x.entry(0, object, 5);
        }
        x.ask(0, 1, 1);
        due("walk(10000)", x.walk(10000), 3);
        x.wanted(1);
        dueObjects(x, 0, 1, 2);
        due("anew(20, 0)", x.anew(20, 0), 3);
        due("keys()", x.keys(), 1);
        x.wanted(20);
        due("walk(10000)", x.walk(10000), 20);
    }

    private static void place() {
        part = "8 place";
        BoundEnding x = new BoundEnding();
        due("place(0, 0)", x.place(0, 0), 0);
        due("place(10800, 511)", x.place(10800, 511), 1);
        due("place(10801, 0)", x.place(10801, 0), BoundEnding.BAD);
        due("place(-2, 0)", x.place(-2, 0), BoundEnding.BAD);
        due("place(0, -1)", x.place(0, -1), BoundEnding.BAD);
        due("place(0, 512)", x.place(0, 512), BoundEnding.BAD);
        for (int bad : WRONG) {
            due("place(bad, 0)", x.place(bad, 0), BoundEnding.BAD);
            due("place(0, bad)", x.place(0, bad), BoundEnding.BAD);
        }
        due("place(-1, -7)", x.place(-1, -7), 1);
        due("place(-1, 512)", x.place(-1, 512), 0);
        fill(x, 0, 1, 10, 2, 20, 3, 10, 4, 5, 5, 10);
        x.ask(0, 1, 2);
        x.place(20, 3);
        due("walk(100)", x.walk(100), 2);
        dueObjects(x, 5, 4);
        // One that is refused changes nothing.
        x.place(-2, 0);
        due("walk(100)", x.walk(100), 2);
        // The PLACE itself need not be that of an OBJECT that FITS.
        x.place(20, 0);
        due("walk(100)", x.walk(100), 4);
        dueObjects(x, 1, 3, 5, 4);
        x.place(39, 511);
        due("walk(100)", x.walk(100), 4);
        x.place(40, 2);
        due("walk(100)", x.walk(100), 4);
        x.place(40, 1);
        due("walk(100)", x.walk(100), 5);
        x.place(0, 0);
        due("walk(100)", x.walk(100), 0);
        x.place(-1, 0);
        due("walk(100)", x.walk(100), 5);
        dueObjects(x, 2, 1, 3, 5, 4);
    }

    /** LIST 0 is ASKED, 1 NEEDED, 2 BARRED, 3 LEFT ASIDE; OBJECT o is in LIST i if its bit i is set. */
    private static BoundEnding sorts() {
        BoundEnding x = new BoundEnding();
        for (int object = 0; object < 16; object++) {
            for (int list = 0; list < 4; list++) {
                if ((object >> list & 1) == 1) {
                    x.entry(list, object, 10 + list);
                }
            }
        }
        x.ask(0, 1, 9);
        x.ask(1, 2, 2);
        x.ask(2, 3, 5);
        x.ask(3, 0, 7);
        return x;
    }

    private static void fits() {
        part = "9 fits";
        BoundEnding x = sorts();
        for (int object = 0; object < 16; object++) {
            due("fits(" + object + ")", x.fits(object), (object & 6) == 2 ? 1 : 0);
        }
        x.ask(1, 1, 2);
        for (int object = 0; object < 16; object++) {
            due("fits(" + object + "), none NEEDED", x.fits(object), (object & 3) != 0 && (object & 4) == 0 ? 1 : 0);
        }
        x.ask(0, 0, 1);
        x.ask(1, 0, 1);
        for (int object = 0; object < 16; object++) {
            due("fits(" + object + "), none ASKED", x.fits(object), 0);
        }
        x.ask(0, 2, 1);
        x.ask(1, 2, 1);
        x.ask(2, 0, 1);
        for (int object = 0; object < 16; object++) {
            due("fits(" + object + "), two NEEDED", x.fits(object), (object & 3) == 3 ? 1 : 0);
        }
        due("fits(511)", x.fits(511), 0);
        due("fits(-1)", x.fits(-1), BoundEnding.BAD);
        due("fits(512)", x.fits(512), BoundEnding.BAD);
        for (int bad : WRONG) {
            due("fits(bad)", x.fits(bad), BoundEnding.BAD);
        }
        // A LIST that is NEEDED and has no ENTRIES.
        x.ask(9, 2, 1);
        due("fits(3)", x.fits(3), 0);
    }

    private static void sum() {
        part = "10 sum";
        BoundEnding x = sorts();
        for (int object = 0; object < 16; object++) {
            due("sum(" + object + ")", x.sum(object), 90 * (object & 1) + 11 * (object & 2));
        }
        due("sum(511)", x.sum(511), 0);
        due("sum(-1)", x.sum(-1), BoundEnding.BAD);
        due("sum(512)", x.sum(512), BoundEnding.BAD);
        for (int bad : WRONG) {
            due("sum(bad)", x.sum(bad), BoundEnding.BAD);
        }
        BoundEnding y = new BoundEnding();
        for (int list = 0; list < 12; list++) {
            y.entry(list, 511, 100);
            y.ask(list, 1 + list % 2, 9);
        }
        due("sum(511)", y.sum(511), 10800);
        due("walk(1)", y.walk(1), 1);
        due("answer(0, 1)", y.answer(0, 1), 10800);
        y.place(10800, 511);
        due("walk(1)", y.walk(1), 0);
        y.place(10800, 510);
        due("walk(1)", y.walk(1), 1);
    }

    private static void total() {
        part = "11 total";
        BoundEnding x = sorts();
        due("total(512)", x.total(512), 4);
        due("total(4)", x.total(4), 4);
        due("total(3)", x.total(3), 3);
        due("total(1)", x.total(1), 1);
        due("total(0)", x.total(0), BoundEnding.BAD);
        due("total(513)", x.total(513), BoundEnding.BAD);
        for (int bad : WRONG) {
            due("total(bad)", x.total(bad), BoundEnding.BAD);
        }
        x.place(0, 511);
        due("total(512) with a PLACE", x.total(512), 4);
        BoundEnding y = new BoundEnding();
        y.entry(0, 511, 1);
        y.ask(0, 1, 1);
        due("total(512)", y.total(512), 1);
        y.entry(0, 0, 1);
        due("total(512)", y.total(512), 2);
    }

    private static void walkJudges() {
        part = "12 walk: STEPS 1, 2, 6";
        BoundEnding x = new BoundEnding();
        fill(x, 0, 1, 5, 3, 5);
        x.ask(0, 1, 1);
        x.wanted(1);
        // 1 judged: FLOOR 5; then 5 is not above it.
        due("walk(10)", x.walk(10), 1);
        dueTold(x, 2, 1, 0, 0, 1, 5, 3);
        // FLOOR stays 0 as long as not all that are WANTED are HELD.
        x.wanted(3);
        due("walk(10)", x.walk(10), 2);
        dueTold(x, 3, 2, 0, 0, 0, 0, 512);
        dueObjects(x, 1, 3);
        dueNumbers(x, 5, 5);
        x.ask(0, 0, 1);
        due("walk(10)", x.walk(10), 0);
        dueTold(x, 1, 0, 0, 0, 0, 0, 512);
        x.ask(0, 3, 1);
        due("walk(10)", x.walk(10), 0);
        dueTold(x, 1, 0, 0, 0, 0, 0, 512);
        x.ask(0, 1, 1);
        x.ask(1, 2, 1);
        // A LIST that is NEEDED without ENTRIES: the other LINE still stands.
        due("walk(10)", x.walk(10), 0);
        dueTold(x, 1, 0, 0, 0, 0, 0, 1);
        x.ask(1, 0, 1);
        x.entry(2, 1, 1);
        x.ask(2, 3, 1);
        // One that is BARRED is JUDGED, but not HELD.
        due("walk(10)", x.walk(10), 1);
        dueTold(x, 3, 2, 0, 0, 0, 0, 512);
        dueObjects(x, 3);
    }

    private static void walkNeeds() {
        part = "12 walk: STEP 3";
        BoundEnding x = new BoundEnding();
        fill(x, 0, 1, 1, 2, 1, 7, 1, 8, 1);
        fill(x, 1, 5, 1, 7, 2);
        fill(x, 2, 7, 3);
        x.ask(0, 1, 1);
        x.ask(1, 2, 1);
        x.ask(2, 2, 1);
        // q is 1: LINES 0 and 1 jump to 7 over 1, 2, 5; 7 is judged; 1 and 2 have no LINE.
        due("walk(10)", x.walk(10), 1);
        dueTold(x, 3, 1, 0, 3, 0, 0, 8);
        dueObjects(x, 7);
        dueNumbers(x, 6);
        // LIST 0 alone is NEEDED: 5 is passed.
        x.ask(0, 2, 1);
        x.ask(1, 1, 1);
        x.ask(2, 0, 1);
        x.lose(0, 1);
        x.lose(0, 2);
        due("walk(10)", x.walk(10), 2);
        dueTold(x, 4, 2, 0, 1, 0, 0, 512);
        dueObjects(x, 7, 8);
    }

    private static void walkSkips() {
        part = "12 walk: STEP 4";
        BoundEnding x = new BoundEnding();
        fill(x, 0, 0, 10, 1, 1, 2, 1, 3, 1, 4, 1, 5, 1, 6, 1, 7, 1, 8, 20);
        x.ask(0, 1, 1);
        x.wanted(1);
        // 0 judged; q is 1, its BLOCK not above 10: to 8; 8 judged; END.
        due("walk(10)", x.walk(10), 1);
        dueTold(x, 4, 2, 1, 7, 0, 20, 512);
        dueObjects(x, 8);
        // All is counted afresh.
        due("walk(10)", x.walk(10), 1);
        dueTold(x, 4, 2, 1, 7, 0, 20, 512);
        BoundEnding y = new BoundEnding();
        fill(y, 0, 0, 10, 1, 1, 2, 1, 3, 1, 4, 1, 6, 1, 7, 1, 8, 1, 9, 20);
        fill(y, 1, 5, 3);
        y.ask(0, 1, 1);
        y.ask(1, 1, 1);
        y.wanted(1);
        // 0 judged; q is 1: a SKIP to 5, the LINE beyond q; 3 alone is not above 10, so q is 6,
        // where LINE 1 has no BLOCK: a SKIP to 9; 9 judged; END.
        due("walk(10)", y.walk(10), 1);
        dueTold(y, 5, 2, 2, 8, 0, 20, 512);
        dueObjects(y, 9);
        BoundEnding z = new BoundEnding();
        fill(z, 0, 0, 10, 1, 1, 2, 1, 3, 1, 4, 1, 5, 1, 6, 1, 511, 1);
        fill(z, 1, 0, 10, 1, 1);
        z.ask(0, 1, 1);
        z.ask(1, 1, 1);
        z.wanted(2);
        // 0 judged (20), 1 judged (2); 10 is above 2, its BLOCK is, too: 2 .. 511 judged.
        due("walk(100)", z.walk(100), 2);
        dueTold(z, 9, 8, 0, 0, 0, 2, 512);
        dueObjects(z, 0, 1);
        z.wanted(1);
        // 0 judged (20); of the LINES at 1, 20 is not above 20: EARLY.
        due("walk(100)", z.walk(100), 1);
        dueTold(z, 2, 1, 0, 0, 1, 20, 1);
    }

    private static void walkJumps() {
        part = "12 walk: STEP 5";
        BoundEnding x = new BoundEnding();
        fill(x, 0, 0, 10, 3, 1, 6, 5);
        fill(x, 1, 0, 1, 6, 8);
        x.ask(0, 1, 1);
        x.ask(1, 1, 1);
        x.wanted(1);
        // 0 judged (11); 10 is not above it, 18 is: q is 6, its BLOCKS above; 3 is passed; 6 judged; END.
        due("walk(10)", x.walk(10), 1);
        dueTold(x, 4, 2, 0, 1, 0, 13, 512);
        dueObjects(x, 6);
        dueNumbers(x, 13);
        // WEIGHTS count in bounds: 0 judged (12), now 20 is above it at 3.
        x.ask(0, 1, 2);
        x.entry(0, 0, 6);
        x.entry(0, 3, 10);
        due("walk(2)", x.walk(2), 1);
        dueTold(x, 2, 2, 0, 0, 2, 20, 6);
        dueObjects(x, 3);
    }

    private static void walkIsCutOff() {
        part = "12 walk: WORK";
        BoundEnding x = new BoundEnding();
        due("walk(0)", x.walk(0), BoundEnding.BAD);
        due("walk(10001)", x.walk(10001), BoundEnding.BAD);
        due("walk(-1)", x.walk(-1), BoundEnding.BAD);
        for (int bad : WRONG) {
            due("walk(bad)", x.walk(bad), BoundEnding.BAD);
        }
        due("told(6)", x.told(6), 0);
        due("anew(1, 1)", x.anew(1, 1), BoundEnding.NONE);
        fill(x, 0, 4, 1, 9, 2);
        x.ask(0, 1, 1);
        due("walk(1)", x.walk(1), 1);
        dueTold(x, 1, 1, 0, 0, 2, 0, 9);
        // No LINE is left, but no STEP has told the END.
        due("walk(2)", x.walk(2), 2);
        dueTold(x, 2, 2, 0, 0, 2, 0, 512);
        due("walk(3)", x.walk(3), 2);
        dueTold(x, 3, 2, 0, 0, 0, 0, 512);
        due("walk(10000)", x.walk(10000), 2);
        dueObjects(x, 9, 4);
        due("walk(10001)", x.walk(10001), BoundEnding.BAD);
        dueTold(x, 3, 2, 0, 0, 0, 0, 512);
        dueObjects(x, 9, 4);
    }

    private static void keys() {
        part = "13 keys";
        BoundEnding x = new BoundEnding();
        due("keys()", x.keys(), 0);
        due("anew(3, 1)", x.anew(3, 1), 0);
        fill(x, 0, 15, 1, 16, 2, 31, 3, 32, 4, 511, 5);
        fill(x, 1, 100, 9, 15, 9);
        x.key(15, 3);
        x.key(16, -5);
        x.key(31, 3);
        x.key(32, 4);
        x.key(511, 3);
        x.key(100, 1000);
        x.key(200, 1000);
        x.ask(0, 1, 2);
        x.wanted(2);
        // ZONES 0, 1, 2, 6, 31; that of 100 has no OBJECT that FITS, but the greatest KEY; that of 200 is none.
        due("keys()", x.keys(), 2);
        due("told(7)", x.told(7), 5);
        due("told(8)", x.told(8), 1);
        dueObjects(x, 32, 15);
        dueNumbers(x, 4, 3);
        due("answer(0, 2)", x.answer(0, 2), 8);
        due("answer(0, 3)", x.answer(0, 3), 4);
        // No PLACE is looked at.
        x.place(0, 511);
        due("keys()", x.keys(), 2);
        x.wanted(1);
        // 15 has 3: ZONE 1 (3) is passed by, 2 (4) not, 6 not, 31 is.
        due("keys()", x.keys(), 1);
        due("told(7)", x.told(7), 5);
        due("told(8)", x.told(8), 2);
        dueObjects(x, 32);
        x.ask(1, 3, 1);
        // 15 is BARRED: 31 comes in from ZONE 1.
        x.wanted(2);
        due("keys()", x.keys(), 2);
        dueObjects(x, 32, 31);
        due("told(8)", x.told(8), 1);
        x.wanted(20);
        due("keys()", x.keys(), 4);
        dueObjects(x, 32, 31, 511, 16);
        dueNumbers(x, 4, 3, 3, -5);
        due("told(8)", x.told(8), 0);
        x.walk(100);
        due("told(7) behind walk()", x.told(7), 5);
        // KEYS at their least, and what an OBJECT in no LIST has.
        BoundEnding y = new BoundEnding();
        y.key(0, 1000);
        y.entry(0, 1, 1);
        y.key(1, -1000);
        y.entry(0, 16, 1);
        y.key(16, -1000);
        y.ask(0, 2, 1);
        y.wanted(1);
        due("keys()", y.keys(), 1);
        due("told(7)", y.told(7), 2);
        due("told(8)", y.told(8), 1);
        dueObjects(y, 1);
    }

    private static void anew() {
        part = "14 anew";
        BoundEnding x = new BoundEnding();
        due("anew(1, 1)", x.anew(1, 1), BoundEnding.NONE);
        due("anew(21, 1)", x.anew(21, 1), BoundEnding.BAD);
        fill(x, 0, 1, 10, 2, 8, 3, 6, 4, 4);
        x.key(1, -1);
        x.key(2, 1);
        x.key(3, 3);
        x.key(4, 1000);
        x.ask(0, 1, 1);
        x.walk(100);
        due("anew(-1, 1)", x.anew(-1, 1), BoundEnding.BAD);
        due("anew(21, 1)", x.anew(21, 1), BoundEnding.BAD);
        due("anew(1, -10)", x.anew(1, -10), BoundEnding.BAD);
        due("anew(1, 10)", x.anew(1, 10), BoundEnding.BAD);
        for (int bad : WRONG) {
            due("anew(bad, 1)", x.anew(bad, 1), BoundEnding.BAD);
            due("anew(1, bad)", x.anew(1, bad), BoundEnding.BAD);
        }
        due("anew(0, 9)", x.anew(0, 9), 0);
        dueObjects(x, 1, 2, 3, 4);
        // 9, 9, 9: of like ones the lesser OBJECT; the fourth stays.
        due("anew(3, 1)", x.anew(3, 1), 3);
        dueObjects(x, 1, 2, 3, 4);
        dueNumbers(x, 9, 9, 9, 4);
        // Once more, of those numbers: 8, 10, 12. KEYS are those at the walk().
        x.key(1, 500);
        due("anew(3, 1)", x.anew(3, 1), 3);
        dueObjects(x, 3, 2, 1, 4);
        dueNumbers(x, 12, 10, 8, 4);
        due("answer(0, 2)", x.answer(0, 2), 6);
        due("answer(0, 3)", x.answer(0, 3), 3);
        due("answer(2, 3)", x.answer(2, 3), -1);
        // Those behind the first m may have greater numbers.
        due("anew(2, -9)", x.anew(2, -9), 2);
        dueObjects(x, 2, 3, 1, 4);
        dueNumbers(x, 1, -15, 8, 4);
        due("anew(20, 9)", x.anew(20, 9), 4);
        dueObjects(x, 4, 3, 2, 1);
        dueNumbers(x, 9004, 12, 10, -1);
        due("anew(20, 0)", x.anew(20, 0), 4);
        dueNumbers(x, 9004, 12, 10, -1);
        // Behind keys(): KEY and f times SUM.
        due("keys()", x.keys(), 4);
        dueObjects(x, 4, 1, 3, 2);
        due("anew(4, -9)", x.anew(4, -9), 4);
        dueObjects(x, 4, 1, 3, 2);
        dueNumbers(x, 964, 410, -51, -71);
        x.ask(0, 0, 1);
        due("anew(3, 9)", x.anew(3, 9), 3);
        dueNumbers(x, 1000, 500, 3, -71);
        // Behind a walk() again: SUM and f times KEY.
        x.ask(0, 1, 1);
        x.walk(100);
        due("anew(2, 2)", x.anew(2, 2), 2);
        dueObjects(x, 1, 2, 3, 4);
        dueNumbers(x, 1010, 10, 6, 4);
    }

    private static void answer() {
        part = "15 answer";
        BoundEnding x = new BoundEnding();
        fill(x, 0, 30, 10, 40, 20);
        x.key(30, -1);
        x.key(40, 7);
        x.ask(0, 1, 3);
        x.walk(100);
        int[][] want = {{40, 60, 60, 7}, {30, 30, 30, -1}};
        for (int k = 0; k < 2; k++) {
            for (int what = 0; what < 4; what++) {
                due("answer(" + k + ", " + what + ")", x.answer(k, what), want[k][what]);
            }
        }
        due("answer(2, 0)", x.answer(2, 0), BoundEnding.BAD);
        due("answer(-1, 0)", x.answer(-1, 0), BoundEnding.BAD);
        due("answer(0, 4)", x.answer(0, 4), BoundEnding.BAD);
        due("answer(0, -1)", x.answer(0, -1), BoundEnding.BAD);
        due("answer(20, 0)", x.answer(20, 0), BoundEnding.BAD);
        for (int bad : WRONG) {
            due("answer(bad, 0)", x.answer(bad, 0), BoundEnding.BAD);
            due("answer(0, bad)", x.answer(0, bad), BoundEnding.BAD);
        }
        // All as they were at the walk().
        x.key(40, 0);
        x.entry(0, 40, 1);
        x.lose(0, 30);
        x.ask(0, 3, 9);
        x.wanted(1);
        for (int k = 0; k < 2; k++) {
            for (int what = 0; what < 4; what++) {
                due("answer(" + k + ", " + what + ") later", x.answer(k, what), want[k][what]);
            }
        }
        x.ask(0, 1, 9);
        due("keys()", x.keys(), 1);
        due("answer(0, 1)", x.answer(0, 1), 0);
        due("answer(0, 2)", x.answer(0, 2), 9);
        due("answer(1, 0)", x.answer(1, 0), BoundEnding.BAD);
    }

    private static void told() {
        part = "16 told";
        BoundEnding x = new BoundEnding();
        fill(x, 0, 1, 5, 3, 5);
        x.ask(0, 1, 1);
        x.wanted(1);
        x.keys();
        // Before a walk() even 6 is 0.
        dueTold(x, 0, 0, 0, 0, 0, 0, 0, 1, 0);
        x.walk(10);
        dueTold(x, 2, 1, 0, 0, 1, 5, 3, 1, 0);
        // Told are the latest ones, whatever comes then.
        x.lose(0, 3);
        x.entry(0, 16, 1);
        x.wanted(20);
        x.ask(0, 0, 9);
        x.anew(20, 9);
        dueTold(x, 2, 1, 0, 0, 1, 5, 3, 1, 0);
        x.keys();
        dueTold(x, 2, 1, 0, 0, 1, 5, 3, 2, 0);
        due("told(-1)", x.told(-1), BoundEnding.BAD);
        due("told(9)", x.told(9), BoundEnding.BAD);
        for (int bad : WRONG) {
            due("told(bad)", x.told(bad), BoundEnding.BAD);
        }
    }

    private static void count() {
        part = "17 count";
        BoundEnding x = new BoundEnding();
        for (int list = 0; list < 12; list++) {
            for (int object = 0; object <= list; object++) {
                x.entry(list, object * 40, 1);
            }
            x.ask(list, list % 5 > 3 ? 0 : list % 5, 1);
        }
        for (int list = 0; list < 12; list++) {
            due("count(" + list + ")", x.count(list), list + 1);
        }
        // LISTS 1, 6, 11 ASKED; 2, 7 NEEDED; 3, 8 BARRED.
        due("count(12)", x.count(12), 5);
        due("count(13)", x.count(13), 2);
        due("count(14)", x.count(14), 2);
        due("count(15)", x.count(15), 10);
        due("count(16)", x.count(16), 0);
        due("count(17)", x.count(17), 12);
        x.entry(3, 511, 1);
        x.lose(11, 440);
        x.wanted(7);
        x.ask(3, 0, 1);
        due("count(14)", x.count(14), 1);
        x.ask(8, 0, 1);
        due("count(12)", x.count(12), 5);
        due("count(13)", x.count(13), 2);
        due("count(14)", x.count(14), 0);
        x.ask(0, 3, 1);
        due("count(14)", x.count(14), 1);
        x.ask(0, 0, 1);
        due("walk(10000)", x.walk(10000), 3);
        due("count(15)", x.count(15), 7);
        due("count(16)", x.count(16), 3);
        due("count(17)", x.count(17), 12);
        due("count(-1)", x.count(-1), BoundEnding.BAD);
        due("count(18)", x.count(18), BoundEnding.BAD);
        for (int bad : WRONG) {
            due("count(bad)", x.count(bad), BoundEnding.BAD);
        }
    }

    public static void main(String[] args) {
        newObject();
        entry();
        lose();
        key();
        top();
        ask();
        wanted();
        place();
        fits();
        sum();
        total();
        walkJudges();
        walkNeeds();
        walkSkips();
        walkJumps();
        walkIsCutOff();
        keys();
        anew();
        answer();
        told();
        count();
        System.out.println(wrong == 0 ? "all answers are as due" : wrong + " answers are not as due");
        if (wrong != 0) {
            System.exit(1);
        }
    }
}
