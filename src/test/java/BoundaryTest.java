import java.util.function.Consumer;

/**
 * For each sentence of the document that names a boundary, one test of its own. A test's name is the part of
 * the document, the sentence in its own words and, where a sentence names several boundaries, which of them it is.
 * Every test has a new object and stays within the 512 calls that the document grants it. Worked out by hand.
 */
public final class BoundaryTest {
    private static final int BAD = BoundEnding.BAD;
    private static final int NONE = BoundEnding.NONE;
    private static final int FULL = BoundEnding.FULL;

    private static final int ASIDE = 0;
    private static final int ASKED = 1;
    private static final int NEEDED = 2;
    private static final int BARRED = 3;

    private static final int AT_END = 0;
    private static final int EARLY = 1;
    private static final int CUT_OFF = 2;

    private static int sentences = 0;
    private static int broken = 0;
    private static int wrong = 0;
    private static String part = "";
    private static String name = "";

    private static void sentence(String words, Consumer<BoundEnding> test) {
        sentence(words, "", test);
    }

    private static void sentence(String words, String which, Consumer<BoundEnding> test) {
        sentences++;
        name = part + ": \"" + words + "\"" + (which.isEmpty() ? "" : ", " + which);
        int before = wrong;
        try {
            test.accept(new BoundEnding());
        } catch (RuntimeException e) {
            wrong++;
            System.out.println(name + ": threw " + e);
        }
        broken += wrong > before ? 1 : 0;
    }

    private static void due(String call, int got, int want) {
        if (got != want) {
            wrong++;
            System.out.println(name + ": " + call + " answered " + got + ", due is " + want);
        }
    }

    /** told(0 ..): STEPS, JUDGED, SKIPS, PASSED, how it ended, FLOOR, least OBJECT of a LINE; ZONES, PASSED BY. */
    private static void dueTold(BoundEnding x, int... want) {
        for (int what = 0; what < want.length; what++) {
            due("told(" + what + ")", x.told(what), want[what]);
        }
    }

    /** All ANSWERS, and that there are no more. */
    private static void dueObjects(BoundEnding x, int... want) {
        due("count(16)", x.count(16), want.length);
        for (int k = 0; k < want.length; k++) {
            due("answer(" + k + ", 0)", x.answer(k, 0), want[k]);
        }
        due("answer(" + want.length + ", 0)", x.answer(want.length, 0), BAD);
    }

    private static void dueNumbers(BoundEnding x, int... want) {
        for (int k = 0; k < want.length; k++) {
            due("answer(" + k + ", 1)", x.answer(k, 1), want[k]);
        }
    }

    /** ENTRIES of a LIST, as pairs of OBJECT and SCORE. */
    private static void fill(BoundEnding x, int list, int... pairs) {
        for (int i = 0; i + 1 < pairs.length; i += 2) {
            x.entry(list, pairs[i], pairs[i + 1]);
        }
    }

    /** ENTRIES of all OBJECTS from first to last, with one SCORE. */
    private static void fillAll(BoundEnding x, int list, int first, int last, int score) {
        for (int object = first; object <= last; object++) {
            x.entry(list, object, score);
        }
    }

    /** A LIST that is ASKED with WEIGHT 1. */
    private static void asked(BoundEnding x, int list, int... pairs) {
        fill(x, list, pairs);
        x.ask(list, ASKED, 1);
    }

    /** A LIST that is NEEDED with WEIGHT 1. */
    private static void needed(BoundEnding x, int list, int... pairs) {
        fill(x, list, pairs);
        x.ask(list, NEEDED, 1);
    }

    /** Numbers beyond the edges: just so, by what a narrower type would wrap around, and as far as ints go. */
    private static int[] outside(int least, int most) {
        return new int[] {least - 1, most + 1, least + (1 << 16), least - (1 << 16), most + (1 << 24),
            Integer.MIN_VALUE, Integer.MIN_VALUE + least, Integer.MAX_VALUE};
    }

    private static void publicFace() {
        part = "The public face";
        sentence("BAD = -1, NONE = -2, FULL = -3", x -> {
            due("BAD", BAD, -1);
            due("NONE", NONE, -2);
            due("FULL", FULL, -3);
        });
        part = "What it is";
        sentence("An object is used for at most 512 calls after it has been made", x -> {
            for (int list = 0; list < 12; list++) {
                x.entry(list, 511, 100);
                x.ask(list, ASKED, 9);
            }
            x.keys();
            for (int call = 26; call < 512; call++) {
                due("anew(1, 9), call " + call, x.anew(1, 9), 1);
            }
            due("answer(0, 1), call 512", x.answer(0, 1), 486 * 9 * 10800);
        });
    }

    private static void termsOfLists() {
        part = "Terms";
        sentence("511 have a KEY each (0 at first).", "at first", x -> {
            for (int object = 0; object < 512; object++) {
                due("key(" + object + ", 0)", x.key(object, 0), 1000);
            }
        });
        sentence("511 have a KEY each (0 at first).", "each its own", x -> {
            x.key(0, 5);
            x.key(511, 7);
            due("key(1, 0)", x.key(1, 0), 1000);
            due("key(510, 0)", x.key(510, 0), 1000);
            due("key(0, 0)", x.key(0, 0), 1005);
            due("key(511, 0)", x.key(511, 0), 1007);
        });
        sentence("LISTS 0 .. 11 have ENTRIES", x -> {
            for (int list = 0; list < 12; list++) {
                due("entry(" + list + ", 5, ..)", x.entry(list, 5, 1 + list), 1);
            }
            for (int list = 0; list < 12; list++) {
                due("count(" + list + ")", x.count(list), 1);
                due("top(" + list + ", -1)", x.top(list, -1), 1 + list);
            }
        });
        sentence("an OBJECT (each once)", x -> {
            x.entry(0, 9, 1);
            due("entry(0, 9, 2)", x.entry(0, 9, 2), 1);
            due("count(0)", x.count(0), 1);
            due("lose(0, 9)", x.lose(0, 9), 0);
            due("lose(0, 9)", x.lose(0, 9), BAD);
        });
        sentence("a SCORE (1 .. 100)", x -> {
            due("entry(0, 0, 1)", x.entry(0, 0, 1), 1);
            due("top(0, 0)", x.top(0, 0), 1);
            due("entry(0, 0, 100)", x.entry(0, 0, 100), 1);
            due("top(0, 0)", x.top(0, 0), 100);
        });
        sentence("by rising OBJECTS", x -> {
            for (int object = 511; object >= 503; object--) {
                x.entry(0, object, object - 502);
            }
            x.entry(0, 0, 50);
            due("top(0, 0)", x.top(0, 0), 50);
            due("top(0, 1)", x.top(0, 1), 9);
            x.lose(0, 0);
            due("top(0, 0)", x.top(0, 0), 8);
            due("top(0, 1)", x.top(0, 1), 9);
        });
        sentence("120 at most", x -> {
            for (int object = 0; object < 120; object++) {
                due("entry(0, " + object + ", 1)", x.entry(0, object, 1), object + 1);
            }
            due("entry(0, 120, 1)", x.entry(0, 120, 1), FULL);
            due("count(0)", x.count(0), 120);
        });
        sentence("its ENTRIES by eights, from the first one on.", "how many BLOCKS there are", x -> {
            for (int size = 1; size <= 120; size++) {
                x.entry(3, 2 * size, size % 100 + 1);
                int last = (size - 1) / 8;
                if (size % 8 <= 1) {
                    due("top(3, " + last + ") of " + size, x.top(3, last) == BAD ? 1 : 0, 0);
                    due("top(3, " + (last + 1) + ") of " + size, x.top(3, last + 1), BAD);
                }
            }
        });
        sentence("its ENTRIES by eights, from the first one on.", "which BLOCK an ENTRY is in", x -> {
            fillAll(x, 0, 0, 16, 1);
            fill(x, 0, 7, 70, 8, 80, 15, 90, 16, 60);
            due("top(0, 0)", x.top(0, 0), 70);
            due("top(0, 1)", x.top(0, 1), 90);
            due("top(0, 2)", x.top(0, 2), 60);
            x.lose(0, 0);
            due("top(0, 0) of 16", x.top(0, 0), 80);
            due("top(0, 1) of 16", x.top(0, 1), 90);
            due("top(0, 2) of 16", x.top(0, 2), BAD);
        });
        sentence("its greatest SCORE (0 without ENTRIES).", "0 at first", x -> {
            for (int list = 0; list < 12; list++) {
                due("top(" + list + ", -1)", x.top(list, -1), 0);
            }
        });
        sentence("its greatest SCORE (0 without ENTRIES).", "0 when the last one is lost", x -> {
            x.entry(0, 4, 40);
            x.lose(0, 4);
            due("top(0, -1)", x.top(0, -1), 0);
        });
        sentence("its greatest SCORE (0 without ENTRIES).", "the next one when the greatest goes or falls", x -> {
            fill(x, 0, 1, 30, 2, 50, 3, 40);
            x.entry(0, 2, 35);
            due("top(0, -1)", x.top(0, -1), 40);
            due("top(0, 0)", x.top(0, 0), 40);
            x.lose(0, 3);
            due("top(0, -1)", x.top(0, -1), 35);
            due("top(0, 0)", x.top(0, 0), 35);
        });
    }

    private static void termsOfTheQuestion() {
        part = "Terms";
        sentence("each LIST is LEFT ASIDE (at first)", x -> {
            for (int list = 0; list < 12; list++) {
                x.entry(list, 7, 1);
            }
            due("fits(7)", x.fits(7), 0);
            due("sum(7)", x.sum(7), 0);
            for (int list = 0; list < 12; list++) {
                due("ask(" + list + ", 0, 1)", x.ask(list, ASIDE, 1) % 10, ASIDE);
            }
        });
        sentence("with a WEIGHT 1 .. 9 (1 at first)", x -> {
            for (int list = 0; list < 12; list++) {
                due("ask(" + list + ", 1, 9)", x.ask(list, ASKED, 9) / 10, 1);
                due("ask(" + list + ", 1, 1)", x.ask(list, ASKED, 1) / 10, 9);
                due("ask(" + list + ", 1, 1)", x.ask(list, ASKED, 1) / 10, 1);
            }
        });
        sentence("NEEDED (which is ASKED, too)", x -> {
            needed(x, 4, 7, 30);
            due("fits(7)", x.fits(7), 1);
            due("sum(7)", x.sum(7), 30);
            due("count(12)", x.count(12), 1);
            due("walk(9)", x.walk(9), 1);
        });
        sentence("An OBJECT FITS if it is in one LIST at least that is ASKED", "in none", x -> {
            fill(x, 0, 7, 1);
            asked(x, 1, 8, 1);
            due("fits(7)", x.fits(7), 0);
            due("fits(9)", x.fits(9), 0);
        });
        sentence("An OBJECT FITS if it is in one LIST at least that is ASKED", "no LIST is, some are BARRED", x -> {
            fill(x, 0, 7, 1);
            x.ask(1, BARRED, 1);
            due("fits(7)", x.fits(7), 0);
            due("fits(0)", x.fits(0), 0);
        });
        sentence("An OBJECT FITS if it is in one LIST at least that is ASKED", "in one of many, the first or last", x -> {
            for (int list = 0; list < 12; list++) {
                x.ask(list, ASKED, 1);
            }
            x.entry(0, 0, 1);
            x.entry(11, 511, 1);
            due("fits(0)", x.fits(0), 1);
            due("fits(511)", x.fits(511), 1);
        });
        sentence("in all that are NEEDED", "all but one", x -> {
            for (int list = 0; list < 12; list++) {
                needed(x, list, 7, 1);
            }
            due("fits(7)", x.fits(7), 1);
            x.lose(11, 7);
            due("fits(7) without LIST 11", x.fits(7), 0);
            x.entry(11, 7, 1);
            x.lose(0, 7);
            due("fits(7) without LIST 0", x.fits(7), 0);
        });
        sentence("in all that are NEEDED", "one that has no ENTRIES", x -> {
            asked(x, 0, 7, 1);
            x.ask(1, NEEDED, 1);
            due("fits(7)", x.fits(7), 0);
        });
        sentence("in none that is BARRED", x -> {
            needed(x, 0, 7, 1, 8, 1);
            fill(x, 11, 7, 1);
            x.ask(11, BARRED, 1);
            due("fits(7)", x.fits(7), 0);
            due("fits(8)", x.fits(8), 1);
            x.lose(11, 7);
            due("fits(7) when LIST 11 has lost it", x.fits(7), 1);
        });
        sentence("WEIGHT times SCORE, of all LISTS together that are ASKED and have it.", "no other LIST's", x -> {
            for (int list = 0; list < 4; list++) {
                x.entry(list, 7, 10 + list);
            }
            x.ask(0, ASIDE, 9);
            x.ask(1, ASKED, 2);
            x.ask(2, NEEDED, 3);
            x.ask(3, BARRED, 9);
            x.ask(4, ASKED, 9);
            due("sum(7)", x.sum(7), 2 * 11 + 3 * 12);
        });
        sentence("the greater SUM first, of like ones the lesser OBJECT.", x -> {
            asked(x, 0, 1, 3, 2, 4, 3, 4, 4, 3, 5, 5);
            due("walk(99)", x.walk(99), 5);
            dueObjects(x, 5, 2, 3, 1, 4);
        });
        sentence("n OBJECTS (1 .. 20; 10 at first)", "10 at first", x -> {
            fillAll(x, 0, 0, 10, 1);
            x.ask(0, ASKED, 1);
            due("walk(99)", x.walk(99), 10);
            due("keys()", x.keys(), 10);
            due("count(15)", x.count(15), 10);
        });
        sentence("n OBJECTS (1 .. 20; 10 at first)", "1 and 20", x -> {
            fillAll(x, 0, 0, 20, 1);
            x.ask(0, ASKED, 1);
            x.wanted(1);
            due("walk(99) of 1", x.walk(99), 1);
            due("keys() of 1", x.keys(), 1);
            x.wanted(20);
            due("walk(99) of 20", x.walk(99), 20);
            due("answer(19, 0)", x.answer(19, 0), 19);
            due("keys() of 20", x.keys(), 20);
            due("answer(19, 0)", x.answer(19, 0), 19);
        });
        sentence("only those that are behind it in ORDER", "not the one at it", x -> {
            asked(x, 0, 4, 5);
            x.place(5, 4);
            due("walk(9)", x.walk(9), 0);
        });
        sentence("only those that are behind it in ORDER", "of like SUMS greater OBJECTS alone", x -> {
            asked(x, 0, 3, 5, 4, 5, 5, 5);
            x.place(5, 4);
            due("walk(9)", x.walk(9), 1);
            dueObjects(x, 5);
        });
        sentence("only those that are behind it in ORDER", "lesser SUMS, whatever the OBJECT", x -> {
            asked(x, 0, 0, 4, 4, 6, 511, 6);
            x.place(5, 4);
            due("walk(9)", x.walk(9), 1);
            dueObjects(x, 0);
        });
    }

    private static void termsOfTheWalk() {
        part = "2 THE WALK";
        sentence("of the OBJECTS that were JUDGED", x -> {
            asked(x, 0, 1, 5, 2, 7, 3, 9);
            due("walk(2)", x.walk(2), 2);
            dueObjects(x, 2, 1);
        });
        sentence("FIT and are behind the PLACE", "one that does not FIT", x -> {
            asked(x, 0, 1, 9, 2, 5, 3, 6);
            fill(x, 1, 1, 1);
            x.ask(1, BARRED, 1);
            x.wanted(1);
            // 1 is JUDGED, but gives no FLOOR.
            due("walk(9)", x.walk(9), 1);
            dueTold(x, 4, 3, 0, 0, AT_END, 6, 512);
            dueObjects(x, 3);
        });
        sentence("FIT and are behind the PLACE", "one that is not behind it", x -> {
            asked(x, 0, 1, 9, 2, 5, 3, 7);
            x.wanted(1);
            x.place(9, 1);
            due("walk(9)", x.walk(9), 1);
            dueTold(x, 4, 3, 0, 0, AT_END, 7, 512);
            dueObjects(x, 3);
        });
        sentence("the n first in ORDER.", "a like SUM does not push one out, a greater one does", x -> {
            asked(x, 0, 1, 5, 2, 5, 3, 5, 4, 9);
            x.wanted(2);
            due("walk(3)", x.walk(3), 2);
            dueObjects(x, 1, 2);
            due("walk(9)", x.walk(9), 2);
            dueObjects(x, 4, 1);
        });
        sentence("the least SUM that is HELD, if n are; else 0.", "one less than n", x -> {
            asked(x, 0, 1, 5, 2, 7);
            x.wanted(3);
            x.walk(9);
            due("told(5)", x.told(5), 0);
        });
        sentence("the least SUM that is HELD, if n are; else 0.", "n", x -> {
            asked(x, 0, 1, 5, 2, 7);
            x.wanted(2);
            x.walk(9);
            due("told(5)", x.told(5), 5);
        });
        sentence("A LINE for each LIST that is ASKED stands at one of its ENTRIES", "not for other LISTS", x -> {
            fill(x, 0, 3, 1);
            fill(x, 1, 4, 1);
            x.ask(1, BARRED, 1);
            due("walk(9)", x.walk(9), 0);
            dueTold(x, 1, 0, 0, 0, AT_END, 0, 512);
            asked(x, 2, 9, 1);
            due("walk(1)", x.walk(1), 1);
            dueTold(x, 1, 1, 0, 0, CUT_OFF, 0, 512);
        });
        sentence("A LINE for each LIST that is ASKED stands at one of its ENTRIES", "none without ENTRIES", x -> {
            asked(x, 0, 7, 1);
            x.ask(1, ASKED, 1);
            due("walk(9)", x.walk(9), 1);
            dueTold(x, 2, 1, 0, 0, AT_END, 0, 512);
        });
        sentence("at first at the first one", x -> {
            asked(x, 0, 7, 1, 9, 1);
            x.ask(1, NEEDED, 1);
            due("walk(9)", x.walk(9), 0);
            dueTold(x, 1, 0, 0, 0, AT_END, 0, 7);
            asked(x, 0, 0, 1);
            x.walk(9);
            due("told(6)", x.told(6), 0);
        });
        sentence("behind the last one it is no LINE any more.", x -> {
            asked(x, 0, 7, 1, 511, 1);
            x.walk(1);
            due("told(6) behind 7", x.told(6), 511);
            x.walk(2);
            due("told(6) behind 511", x.told(6), 512);
        });
        sentence("to its first ENTRY with an OBJECT of r or more", "with r itself", x -> {
            asked(x, 0, 1, 1, 2, 1, 5, 1, 6, 1);
            needed(x, 1, 5, 1);
            x.walk(1);
            dueTold(x, 1, 0, 0, 2, CUT_OFF, 0, 5);
            x.walk(2);
            due("told(6)", x.told(6), 6);
            dueNumbers(x, 2);
        });
        sentence("to its first ENTRY with an OBJECT of r or more", "beyond r", x -> {
            asked(x, 0, 1, 1, 2, 1, 4, 1, 6, 1, 7, 1);
            needed(x, 1, 5, 1);
            x.walk(1);
            dueTold(x, 1, 0, 0, 3, CUT_OFF, 0, 5);
            x.walk(2);
            due("told(6)", x.told(6), 6);
        });
        sentence("to its first ENTRY with an OBJECT of r or more", "there is none", x -> {
            asked(x, 0, 1, 1, 2, 1);
            needed(x, 1, 5, 1);
            x.walk(1);
            dueTold(x, 1, 0, 0, 2, CUT_OFF, 0, 5);
            due("walk(2)", x.walk(2), 1);
            dueTold(x, 2, 1, 0, 2, CUT_OFF, 0, 512);
        });
        sentence("if it stands before that", x -> {
            asked(x, 0, 1, 1, 5, 1);
            needed(x, 1, 5, 1, 6, 1);
            asked(x, 2, 5, 1, 6, 1);
            asked(x, 3, 9, 1, 10, 1);
            // LINES 1, 2 are at 5 and 3 beyond it: they stay.
            x.walk(1);
            dueTold(x, 1, 0, 0, 1, CUT_OFF, 0, 5);
            x.walk(2);
            dueTold(x, 2, 1, 0, 1, CUT_OFF, 0, 6);
            dueNumbers(x, 3);
        });
        sentence("each ENTRY that it leaves so is PASSED.", "not those that are JUDGED", x -> {
            asked(x, 0, 1, 1, 2, 1, 3, 1);
            x.walk(9);
            dueTold(x, 4, 3, 0, 0, AT_END, 0, 512);
        });
        sentence("each ENTRY that it leaves so is PASSED.", "of each LINE, the last ENTRY too", x -> {
            asked(x, 0, 1, 1, 2, 1, 3, 1);
            asked(x, 1, 2, 1, 3, 1);
            needed(x, 2, 4, 1);
            x.walk(1);
            dueTold(x, 1, 0, 0, 5, CUT_OFF, 0, 4);
        });
    }

    private static void firstOfTheSteps() {
        part = "2 THE WALK";
        sentence("each tells the first of these that holds, which ends it", "1 before 2", x -> {
            asked(x, 0, 1, 5, 2, 5);
            needed(x, 1, 1, 1);
            x.wanted(1);
            // Behind 1, LINE 1 is none, and 5 is not above 6: END, not EARLY.
            x.walk(9);
            dueTold(x, 2, 1, 0, 0, AT_END, 6, 2);
        });
        sentence("each tells the first of these that holds, which ends it", "2 before 3", x -> {
            asked(x, 0, 1, 5, 2, 5);
            needed(x, 1, 1, 1, 9, 1);
            x.wanted(1);
            // Behind 1, 5 and 1 are not above 6, and LINE 1 is far beyond: EARLY, no JUMP.
            x.walk(9);
            dueTold(x, 2, 1, 0, 0, EARLY, 6, 2);
        });
        sentence("each tells the first of these that holds, which ends it", "3 before 4", x -> {
            asked(x, 0, 0, 10, 1, 1, 2, 1, 3, 1, 4, 1, 5, 1, 6, 1, 7, 1, 8, 20);
            needed(x, 1, 0, 1, 8, 1);
            x.wanted(1);
            // At 1 its BLOCK is not above 11, but LINE 1 is at 8: no SKIP.
            x.walk(9);
            dueTold(x, 4, 2, 0, 7, AT_END, 21, 512);
        });
        sentence("each tells the first of these that holds, which ends it", "4 before 5", x -> {
            asked(x, 0, 0, 10, 3, 1, 15, 1);
            asked(x, 1, 0, 1, 6, 1, 7, 1, 8, 1, 9, 1, 10, 1, 11, 1, 12, 1, 20, 20);
            x.wanted(1);
            // Behind 0, q is 6 and LINE 0 is at 3; BLOCKS 10 and 1 are not above 11: a SKIP to 13 from there.
            x.walk(2);
            dueTold(x, 2, 1, 1, 8, CUT_OFF, 11, 15);
            x.walk(9);
            dueTold(x, 5, 2, 1, 9, AT_END, 20, 512);
        });
        sentence("each tells the first of these that holds, which ends it", "5, then 6 in a STEP of its own", x -> {
            asked(x, 0, 0, 10, 3, 1, 6, 5);
            asked(x, 1, 0, 1, 6, 8);
            x.wanted(1);
            x.walk(2);
            dueTold(x, 2, 1, 0, 1, CUT_OFF, 11, 6);
            x.walk(3);
            dueTold(x, 3, 2, 0, 1, CUT_OFF, 13, 512);
        });
        sentence("each tells the first of these that holds, which ends it", "3, then 6 in a STEP of its own", x -> {
            asked(x, 0, 1, 1, 5, 1);
            needed(x, 1, 5, 1);
            due("walk(1)", x.walk(1), 0);
            due("walk(2)", x.walk(2), 1);
        });
    }

    private static void stepOne() {
        part = "2 THE WALK, STEP 1";
        sentence("There is no LINE", "at once", x -> {
            due("walk(9)", x.walk(9), 0);
            dueTold(x, 1, 0, 0, 0, AT_END, 0, 512);
            x.ask(0, ASKED, 1);
            due("walk(9)", x.walk(9), 0);
            dueTold(x, 1, 0, 0, 0, AT_END, 0, 512);
        });
        sentence("There is no LINE", "one that is not NEEDED may be missing", x -> {
            asked(x, 0, 1, 1);
            asked(x, 1, 1, 1, 9, 1);
            due("walk(9)", x.walk(9), 2);
            dueTold(x, 3, 2, 0, 0, AT_END, 0, 512);
        });
        sentence("or a LIST that is NEEDED has none", "at first", x -> {
            asked(x, 0, 1, 1);
            x.ask(11, NEEDED, 1);
            due("walk(9)", x.walk(9), 0);
            dueTold(x, 1, 0, 0, 0, AT_END, 0, 1);
        });
        sentence("or a LIST that is NEEDED has none", "one of two, later", x -> {
            needed(x, 0, 1, 1, 2, 1);
            needed(x, 1, 1, 1);
            due("walk(9)", x.walk(9), 1);
            dueTold(x, 2, 1, 0, 0, AT_END, 0, 2);
        });
    }

    private static void stepTwo() {
        part = "2 THE WALK, STEP 2";
        sentence("LINES by the OBJECTS at which they stand", x -> {
            asked(x, 0, 9, 1);
            asked(x, 1, 2, 1);
            x.walk(1);
            dueTold(x, 1, 1, 0, 0, CUT_OFF, 0, 9);
            dueObjects(x, 2);
        });
        sentence("like ones by their LISTS", "all of them count for their OBJECT", x -> {
            asked(x, 2, 0, 7);
            asked(x, 0, 4, 5);
            asked(x, 1, 4, 5);
            asked(x, 3, 6, 1);
            x.wanted(1);
            // Behind 0, 5 is not above 7, 5 and 5 are: q is 4. Then 1 is not above 10.
            x.walk(9);
            dueTold(x, 3, 2, 0, 0, EARLY, 10, 6);
        });
        sentence("WEIGHTS times TOPS of their LISTS are added", "WEIGHTS", x -> {
            asked(x, 0, 0, 5);
            fill(x, 1, 3, 1);
            x.ask(1, ASKED, 9);
            x.wanted(1);
            x.walk(9);
            dueTold(x, 3, 2, 0, 0, AT_END, 9, 512);
        });
        sentence("WEIGHTS times TOPS of their LISTS are added", "TOPS of what is behind the LINE, too", x -> {
            asked(x, 0, 0, 9, 1, 3, 2, 3);
            x.wanted(2);
            x.walk(9);
            dueTold(x, 4, 3, 0, 0, AT_END, 3, 512);
        });
        sentence("till the sum is above FLOOR", "one that is like it is not", x -> {
            asked(x, 0, 1, 5, 3, 5);
            x.wanted(1);
            x.walk(9);
            dueTold(x, 2, 1, 0, 0, EARLY, 5, 3);
        });
        sentence("till the sum is above FLOOR", "one more than it is", x -> {
            asked(x, 0, 1, 5, 3, 6);
            x.wanted(1);
            x.walk(9);
            dueTold(x, 3, 2, 0, 0, AT_END, 6, 512);
        });
        sentence("q is the OBJECT of the LINE with which it is.", "not that of one before or behind it", x -> {
            asked(x, 0, 0, 4, 2, 1, 8, 4);
            asked(x, 1, 0, 4, 4, 1, 8, 4);
            asked(x, 2, 0, 4, 6, 6);
            asked(x, 3, 8, 9);
            x.wanted(1);
            // Behind 0, FLOOR is 12: 4 and 4 are not above it, 6 more are: q is 6, to which LINES 0 and 1 JUMP.
            x.walk(2);
            dueTold(x, 2, 1, 0, 2, CUT_OFF, 12, 6);
        });
        sentence("If it never is: THE WALK is at its end EARLY.", x -> {
            asked(x, 0, 1, 5, 2, 1);
            asked(x, 1, 1, 5, 3, 1);
            x.wanted(1);
            x.walk(9);
            dueTold(x, 2, 1, 0, 0, EARLY, 10, 2);
            dueObjects(x, 1);
        });
        sentence("If it never is: THE WALK is at its end EARLY.", "not before n are HELD", x -> {
            asked(x, 0, 1, 5, 2, 1);
            x.wanted(2);
            x.walk(9);
            dueTold(x, 3, 2, 0, 0, AT_END, 1, 512);
        });
    }

    private static void stepThree() {
        part = "2 THE WALK, STEP 3";
        sentence("A LINE that is NEEDED stands beyond q", "at q is not beyond", x -> {
            needed(x, 0, 4, 1);
            asked(x, 1, 4, 1, 5, 1);
            due("walk(1)", x.walk(1), 1);
            dueTold(x, 1, 1, 0, 0, CUT_OFF, 0, 5);
        });
        sentence("A LINE that is NEEDED stands beyond q", "one that is only ASKED does not count", x -> {
            asked(x, 0, 4, 1);
            asked(x, 1, 9, 1);
            due("walk(1)", x.walk(1), 1);
            dueTold(x, 1, 1, 0, 0, CUT_OFF, 0, 9);
        });
        sentence("A LINE that is NEEDED stands beyond q", "one beyond is enough", x -> {
            needed(x, 0, 4, 1, 5, 1);
            asked(x, 1, 1, 1);
            x.walk(1);
            dueTold(x, 1, 0, 0, 1, CUT_OFF, 0, 4);
        });
        sentence("with the greatest such OBJECT r", x -> {
            asked(x, 0, 1, 1, 2, 1, 7, 1, 8, 1);
            needed(x, 1, 5, 1, 6, 1, 7, 2);
            needed(x, 2, 7, 3);
            needed(x, 3, 6, 1, 7, 1);
            x.walk(1);
            dueTold(x, 1, 0, 0, 5, CUT_OFF, 0, 7);
        });
        sentence("all LINES that stand before r JUMP to r.", "those NEEDED, those ASKED, no SKIP", x -> {
            asked(x, 0, 1, 1, 9, 1);
            asked(x, 1, 6, 1, 9, 1);
            needed(x, 2, 2, 1, 9, 1);
            needed(x, 3, 7, 1, 9, 1);
            x.walk(1);
            dueTold(x, 1, 0, 0, 3, CUT_OFF, 0, 7);
        });
    }

    private static void stepFour() {
        part = "2 THE WALK, STEP 4";
        sentence("Of each LINE that stands at q or before", "of one beyond it none", x -> {
            asked(x, 0, 0, 10, 1, 1, 2, 1, 3, 1, 4, 1, 5, 1, 6, 1, 7, 1, 8, 20);
            asked(x, 1, 4, 10);
            x.wanted(1);
            // Behind 0, q is 1: 10 alone is not above 10, though LINE 1 is at 4.
            x.walk(2);
            dueTold(x, 2, 1, 1, 3, CUT_OFF, 10, 4);
        });
        sentence("Of each LINE that stands at q or before", "of those at q each one's", x -> {
            asked(x, 0, 0, 10, 1, 1, 2, 1, 3, 1, 4, 1, 5, 1, 6, 1, 7, 1, 8, 20);
            asked(x, 1, 1, 2);
            x.wanted(1);
            // Behind 0, both LINES are at 1: 10 and 2 are above 10.
            x.walk(2);
            dueTold(x, 2, 2, 0, 0, CUT_OFF, 10, 2);
        });
        sentence("the BLOCK of its first ENTRY with an OBJECT of q or more", "not that at which it stands", x -> {
            asked(x, 0, 0, 1, 20, 2, 21, 2, 22, 2, 23, 2, 24, 2, 25, 2, 26, 2, 40, 20);
            asked(x, 1, 0, 10, 1, 1, 2, 1, 3, 1, 4, 1, 5, 1, 6, 1, 7, 1, 30, 1);
            x.wanted(1);
            // Behind 0, q is 20, LINE 1 at 1: BLOCKS of 20 and 30, 2 and 1, are not above 11.
            x.walk(2);
            dueTold(x, 2, 1, 1, 14, CUT_OFF, 11, 30);
        });
        sentence("the BLOCK of its first ENTRY with an OBJECT of q or more", "one with q itself", x -> {
            asked(x, 0, 0, 3, 1, 1, 2, 1, 3, 1, 4, 1, 5, 1, 6, 1, 20, 3, 21, 1);
            asked(x, 1, 0, 3, 20, 4);
            x.wanted(1);
            // Behind 0, FLOOR is 6, q is 20, LINE 0 at 1: 20 is the last of its BLOCK, 3 and 4 are above 6: no SKIP.
            x.walk(2);
            dueTold(x, 2, 1, 0, 6, CUT_OFF, 6, 20);
            x.walk(3);
            dueTold(x, 3, 2, 0, 6, CUT_OFF, 7, 21);
        });
        sentence("(if there is one)", x -> {
            asked(x, 0, 0, 9, 2, 1, 3, 1, 4, 1, 5, 1, 6, 1, 7, 1, 8, 1, 9, 20);
            asked(x, 1, 0, 1, 1, 3);
            x.wanted(1);
            // Behind 0, q is 2, and LINE 1, at 1, has nothing from there on: 9 is not above 10.
            x.walk(9);
            dueTold(x, 4, 2, 1, 8, AT_END, 20, 512);
        });
        sentence("If WEIGHTS times TOPS of these BLOCKS together are not above FLOOR", "like it", x -> {
            asked(x, 0, 0, 10, 1, 1, 2, 1, 3, 1, 4, 1, 5, 1, 6, 1, 7, 1, 8, 20);
            x.wanted(1);
            x.walk(9);
            dueTold(x, 4, 2, 1, 7, AT_END, 20, 512);
        });
        sentence("If WEIGHTS times TOPS of these BLOCKS together are not above FLOOR", "one more than it", x -> {
            asked(x, 0, 0, 10, 1, 11, 2, 1, 3, 1, 4, 1, 5, 1, 6, 1, 7, 1, 8, 20);
            x.wanted(1);
            x.walk(9);
            dueTold(x, 5, 3, 1, 6, AT_END, 20, 512);
        });
        sentence("If WEIGHTS times TOPS of these BLOCKS together are not above FLOOR", "WEIGHTS", x -> {
            fill(x, 0, 0, 5, 1, 6, 2, 1, 3, 1, 4, 1, 5, 1, 6, 1, 7, 1, 8, 20);
            x.ask(0, ASKED, 2);
            x.wanted(1);
            // Behind 0, FLOOR is 10: 6 would not be above it, 12 is.
            x.walk(9);
            dueTold(x, 5, 3, 1, 6, AT_END, 40, 512);
        });
        sentence("If WEIGHTS times TOPS of these BLOCKS together are not above FLOOR", "not while FLOOR is 0", x -> {
            asked(x, 0, 0, 1, 1, 1, 2, 1);
            x.wanted(20);
            x.walk(9);
            dueTold(x, 4, 3, 0, 0, AT_END, 0, 512);
        });
        sentence("one more than the last OBJECT of each such BLOCK", "an ENTRY there is not PASSED", x -> {
            asked(x, 0, 0, 10, 1, 1, 2, 1, 3, 1, 4, 1, 5, 1, 6, 1, 99, 1, 100, 20);
            x.wanted(1);
            x.walk(2);
            dueTold(x, 2, 1, 1, 7, CUT_OFF, 10, 100);
        });
        sentence("one more than the last OBJECT of each such BLOCK", "the least of two", x -> {
            asked(x, 0, 0, 5, 2, 1, 3, 1, 4, 1, 5, 1, 6, 1, 7, 1, 8, 1, 9, 20);
            asked(x, 1, 0, 5, 2, 1, 3, 1, 4, 1, 5, 1, 6, 1, 7, 1, 11, 1, 12, 1);
            x.wanted(1);
            // BLOCKS end at 8 and 11: to 9, where the best is.
            x.walk(2);
            dueTold(x, 2, 1, 1, 13, CUT_OFF, 10, 9);
            x.walk(9);
            dueTold(x, 4, 2, 1, 13, EARLY, 20, 11);
            dueObjects(x, 9);
        });
        sentence("one more than the last OBJECT of each such BLOCK", "a BLOCK of less than eight", x -> {
            asked(x, 0, 0, 9, 1, 1, 2, 1, 3, 1, 4, 1, 5, 1, 6, 1, 7, 1, 8, 1, 9, 1, 30, 1);
            asked(x, 1, 0, 9, 1, 1, 2, 1, 3, 1, 4, 1, 5, 1, 6, 1, 7, 1, 8, 1, 9, 1, 40, 1, 50, 1);
            x.wanted(1);
            x.place(18, 0);
            // 0 is not behind the PLACE; 1 gives FLOOR 2, BLOCKS 0 are above it to 7. At 8, the last BLOCKS have
            // three and four: 1 and 1 are not above 2: to 31, so that LINE 1 comes to stand at 40.
            x.walk(9);
            dueTold(x, 9, 8, 1, 5, CUT_OFF, 2, 40);
            x.walk(99);
            dueTold(x, 11, 8, 2, 7, AT_END, 2, 512);
        });
        sentence("the OBJECTS of the LINES beyond q", x -> {
            asked(x, 0, 0, 10, 1, 1, 2, 1, 3, 1, 4, 1, 5, 1, 6, 1, 7, 1, 8, 20);
            asked(x, 1, 4, 10);
            x.wanted(1);
            // A SKIP to 4, not over it: it has 11. Then one to 8.
            x.walk(3);
            dueTold(x, 3, 2, 1, 3, CUT_OFF, 11, 5);
            x.walk(9);
            dueTold(x, 6, 3, 2, 6, AT_END, 20, 512);
        });
        sentence("the OBJECTS of the LINES beyond q", "the least of two", x -> {
            asked(x, 0, 0, 10, 1, 1, 2, 1, 3, 1, 4, 1, 5, 1, 6, 1, 7, 1, 8, 20);
            asked(x, 1, 5, 1);
            asked(x, 2, 3, 1);
            x.wanted(1);
            x.walk(2);
            dueTold(x, 2, 1, 1, 2, CUT_OFF, 10, 3);
        });
        sentence("the OBJECTS of the LINES beyond q; 512.", "a BLOCK that ends with 511", x -> {
            asked(x, 0, 0, 20, 1, 10, 2, 1, 3, 1, 4, 1, 5, 1, 6, 1, 7, 1);
            fillAll(x, 0, 504, 511, 1);
            x.wanted(1);
            x.place(20, 0);
            // 0 is not behind the PLACE; FLOOR is 10; at 504 the BLOCK is not above it: beyond all OBJECTS.
            x.walk(99);
            dueTold(x, 10, 8, 1, 8, AT_END, 10, 512);
        });
        sentence("All LINES that stand before r JUMP to r: a SKIP.", "those before q, those at q", x -> {
            asked(x, 0, 0, 9, 2, 1, 3, 1, 4, 1, 5, 1, 6, 1, 7, 1, 8, 1, 9, 20);
            asked(x, 1, 0, 1, 1, 3);
            x.wanted(1);
            x.walk(2);
            dueTold(x, 2, 1, 1, 8, CUT_OFF, 10, 9);
        });
    }

    private static void stepsFiveAndSix() {
        part = "2 THE WALK, STEP 5";
        sentence("A LINE stands before q: all these JUMP to q.", "all of them, no SKIP, no JUDGING", x -> {
            asked(x, 0, 0, 4, 2, 1);
            asked(x, 1, 0, 4, 3, 1, 7, 1);
            asked(x, 2, 0, 4, 6, 9);
            x.wanted(1);
            // Behind 0, FLOOR is 12 and q is 6; BLOCKS of 7 and 6, 4 and 9, are above it.
            x.walk(2);
            dueTold(x, 2, 1, 0, 2, CUT_OFF, 12, 6);
        });
        part = "2 THE WALK, STEP 6";
        sentence("q is JUDGED: it comes to those HELD, if it is one", "one that is not is JUDGED all the same", x -> {
            asked(x, 0, 3, 1);
            fill(x, 1, 3, 1);
            x.ask(1, BARRED, 1);
            due("walk(9)", x.walk(9), 0);
            dueTold(x, 2, 1, 0, 0, AT_END, 0, 512);
        });
        sentence("all LINES that stand at it go on to their next ENTRY.", "those at it", x -> {
            asked(x, 0, 4, 1, 5, 1);
            asked(x, 1, 4, 1, 6, 1);
            x.walk(1);
            dueTold(x, 1, 1, 0, 0, CUT_OFF, 0, 5);
            dueNumbers(x, 2);
            x.walk(9);
            dueTold(x, 4, 3, 0, 0, AT_END, 0, 512);
        });
        sentence("all LINES that stand at it go on to their next ENTRY.", "no other", x -> {
            asked(x, 0, 4, 1);
            asked(x, 1, 5, 1, 6, 1);
            x.walk(1);
            dueTold(x, 1, 1, 0, 0, CUT_OFF, 0, 5);
        });
        part = "2 THE WALK, WORK";
        sentence("behind so many STEPS, not at an end, it is CUT OFF.", "one STEP less than the END needs", x -> {
            asked(x, 0, 1, 1, 2, 1, 3, 1);
            due("walk(3)", x.walk(3), 3);
            dueTold(x, 3, 3, 0, 0, CUT_OFF, 0, 512);
        });
        sentence("behind so many STEPS, not at an end, it is CUT OFF.", "as many STEPS as the END needs", x -> {
            asked(x, 0, 1, 1, 2, 1, 3, 1);
            due("walk(4)", x.walk(4), 3);
            dueTold(x, 4, 3, 0, 0, AT_END, 0, 512);
        });
        sentence("behind so many STEPS, not at an end, it is CUT OFF.", "the same for EARLY", x -> {
            asked(x, 0, 1, 5, 3, 5);
            x.wanted(1);
            x.walk(1);
            dueTold(x, 1, 1, 0, 0, CUT_OFF, 5, 3);
            x.walk(2);
            dueTold(x, 2, 1, 0, 0, EARLY, 5, 3);
        });
    }

    private static void byKeys() {
        part = "3 BY KEYS";
        sentence("of the OBJECTS that FIT the n with the greatest KEYS, of like ones the lesser OBJECTS", "the n first", x -> {
            asked(x, 0, 1, 1, 2, 1, 3, 1, 4, 1, 5, 1);
            x.key(2, 5);
            x.key(3, 6);
            x.key(4, 5);
            x.key(5, -1);
            x.wanted(2);
            x.keys();
            dueObjects(x, 3, 2);
            x.wanted(5);
            x.keys();
            dueObjects(x, 3, 2, 4, 1, 5);
        });
        sentence("of the OBJECTS that FIT the n with the greatest KEYS, of like ones the lesser OBJECTS", "none that does not FIT", x -> {
            asked(x, 0, 1, 1, 2, 1);
            fill(x, 1, 2, 1, 3, 1);
            x.ask(1, BARRED, 1);
            x.key(2, 9);
            x.key(3, 9);
            x.keys();
            dueObjects(x, 1);
        });
        sentence("of the OBJECTS that FIT the n with the greatest KEYS, of like ones the lesser OBJECTS", "KEYS below 0", x -> {
            asked(x, 0, 1, 1, 2, 1, 511, 1);
            x.key(1, -1000);
            x.key(2, -999);
            x.key(511, -1000);
            x.wanted(3);
            x.keys();
            dueObjects(x, 2, 1, 511);
            dueNumbers(x, -999, -1000, -1000);
        });
        sentence("(no PLACE is looked at)", x -> {
            asked(x, 0, 1, 1, 2, 2);
            x.place(0, 511);
            due("walk(9)", x.walk(9), 0);
            due("keys()", x.keys(), 2);
        });
        sentence("ZONES are 16 OBJECTS each (0 .. 15, 16 .. 31, ..)", "0 and 15, 16 and 31, 496 and 511", x -> {
            fill(x, 0, 0, 1, 15, 1);
            x.keys();
            due("told(7) of 0, 15", x.told(7), 1);
            fill(x, 0, 16, 1, 31, 1);
            x.keys();
            due("told(7) of 0 .. 31", x.told(7), 2);
            fill(x, 0, 496, 1, 511, 1);
            x.keys();
            due("told(7) with 496, 511", x.told(7), 3);
        });
        sentence("ZONES are 16 OBJECTS each (0 .. 15, 16 .. 31, ..)", "32 of them", x -> {
            for (int object = 0; object < 512; object += 16) {
                x.entry(0, object, 1);
            }
            x.keys();
            due("told(7)", x.told(7), 32);
            x.lose(0, 496);
            x.keys();
            due("told(7) without 496", x.told(7), 31);
        });
        sentence("with the greatest KEY of those that are in some LIST, of whatever sort", "LEFT ASIDE or BARRED", x -> {
            asked(x, 0, 0, 1, 16, 1, 32, 1);
            x.key(0, 5);
            fill(x, 11, 17, 1);
            x.key(17, 6);
            fill(x, 10, 33, 1);
            x.ask(10, BARRED, 1);
            x.key(33, 6);
            x.wanted(1);
            x.keys();
            dueObjects(x, 0);
            due("told(7)", x.told(7), 3);
            due("told(8)", x.told(8), 0);
        });
        sentence("with the greatest KEY of those that are in some LIST, of whatever sort", "not of those in none", x -> {
            asked(x, 0, 0, 1, 16, 1);
            x.key(0, 5);
            x.key(17, 6);
            x.wanted(1);
            x.keys();
            due("told(7)", x.told(7), 2);
            due("told(8)", x.told(8), 1);
        });
        sentence("with the greatest KEY of those that are in some LIST, of whatever sort", "the last OBJECT of a ZONE", x -> {
            asked(x, 0, 0, 1, 16, 1, 31, 1);
            x.key(0, 5);
            x.key(31, 6);
            x.wanted(1);
            x.keys();
            dueObjects(x, 31);
            due("told(8)", x.told(8), 0);
        });
        sentence("a ZONE without any is none.", x -> {
            asked(x, 0, 0, 1, 40, 1);
            x.key(20, 9);
            x.keys();
            due("told(7)", x.told(7), 2);
            x.lose(0, 40);
            x.keys();
            due("told(7) without 40", x.told(7), 1);
            x.lose(0, 0);
            due("keys() of nothing", x.keys(), 0);
            due("told(7) of nothing", x.told(7), 0);
        });
        sentence("a ZONE without any is none.", "one with the least KEY is one", x -> {
            asked(x, 0, 0, 1);
            x.key(0, -1000);
            due("keys()", x.keys(), 1);
            due("told(7)", x.told(7), 1);
        });
        sentence("They are gone through in order", x -> {
            asked(x, 0, 0, 1, 16, 1, 32, 1);
            x.key(0, 1);
            x.key(16, 3);
            x.key(32, 2);
            x.wanted(1);
            x.keys();
            due("told(7)", x.told(7), 3);
            due("told(8)", x.told(8), 1);
        });
        sentence("if n are HELD by then", "one less than n", x -> {
            asked(x, 0, 0, 1, 1, 1, 16, 1);
            x.key(0, 9);
            x.key(1, 8);
            x.wanted(3);
            due("keys()", x.keys(), 3);
            due("told(8)", x.told(8), 0);
        });
        sentence("if n are HELD by then", "n", x -> {
            asked(x, 0, 0, 1, 1, 1, 16, 1);
            x.key(0, 9);
            x.key(1, 8);
            x.wanted(2);
            due("keys()", x.keys(), 2);
            due("told(8)", x.told(8), 1);
        });
        sentence("its greatest KEY is not above the least KEY HELD.", "like it", x -> {
            asked(x, 0, 0, 1, 1, 1, 16, 1);
            x.key(0, 9);
            x.key(1, 8);
            x.key(16, 8);
            x.wanted(2);
            x.keys();
            due("told(8)", x.told(8), 1);
            dueObjects(x, 0, 1);
        });
        sentence("its greatest KEY is not above the least KEY HELD.", "one more than it", x -> {
            asked(x, 0, 0, 1, 1, 1, 16, 1);
            x.key(0, 9);
            x.key(1, 7);
            x.key(16, 8);
            x.wanted(2);
            x.keys();
            due("told(8)", x.told(8), 0);
            dueObjects(x, 0, 16);
        });
    }

    private static void answersAndAnew() {
        part = "3 BY KEYS, ANSWERS";
        sentence("ANSWERS are those HELD by the latest walk() or keys()", "a lesser lot puts a greater one away", x -> {
            asked(x, 0, 1, 1, 2, 2, 3, 3);
            x.key(2, 1);
            x.walk(99);
            dueObjects(x, 3, 2, 1);
            x.wanted(1);
            x.keys();
            dueObjects(x, 2);
            x.ask(0, ASIDE, 1);
            x.walk(99);
            dueObjects(x);
        });
        sentence("in their order, each with its SUM, KEY.", x -> {
            asked(x, 0, 1, 10, 2, 20);
            x.key(1, 4);
            x.key(2, 3);
            x.walk(9);
            dueObjects(x, 2, 1);
            due("answer(0, 2)", x.answer(0, 2), 20);
            due("answer(0, 3)", x.answer(0, 3), 3);
            x.keys();
            dueObjects(x, 1, 2);
            due("answer(0, 2)", x.answer(0, 2), 10);
            due("answer(0, 3)", x.answer(0, 3), 4);
        });
        sentence("the first m of them have the number SUM and f times KEY in place of SUM", x -> {
            asked(x, 0, 1, 30, 2, 20, 3, 10);
            x.key(1, -4);
            x.key(2, 5);
            x.key(3, 6);
            x.walk(9);
            x.anew(2, 1);
            dueObjects(x, 1, 2, 3);
            dueNumbers(x, 26, 25, 10);
        });
        sentence("(behind keys(): KEY and f times SUM in place of KEY)", x -> {
            asked(x, 0, 1, 30, 2, 20, 3, 10);
            x.key(1, -4);
            x.key(2, 5);
            x.key(3, 6);
            x.keys();
            x.anew(2, -2);
            dueObjects(x, 3, 2, 1);
            dueNumbers(x, -14, -35, -4);
        });
        sentence("(behind keys(): KEY and f times SUM in place of KEY)", "no more behind a walk() that comes then", x -> {
            asked(x, 0, 1, 30);
            x.key(1, 4);
            x.keys();
            x.walk(9);
            x.anew(1, 1);
            dueNumbers(x, 34);
            x.anew(1, 1);
            dueNumbers(x, 38);
        });
        sentence("greater ones first, of like ones the lesser OBJECT", x -> {
            asked(x, 0, 1, 8, 2, 9, 3, 10);
            x.key(1, 2);
            x.key(2, 1);
            x.walk(9);
            dueObjects(x, 3, 2, 1);
            x.anew(3, 1);
            dueObjects(x, 1, 2, 3);
            dueNumbers(x, 10, 10, 10);
        });
        sentence("those behind them stay.", "though their numbers are greater", x -> {
            asked(x, 0, 1, 30, 2, 20, 3, 10);
            x.key(1, 100);
            x.key(2, 90);
            x.key(3, 1000);
            x.walk(9);
            x.anew(2, -1);
            dueObjects(x, 1, 2, 3);
            dueNumbers(x, -70, -70, 10);
        });
    }

    private static void promise1() {
        part = "Promise 1, A new object";
        sentence("No ENTRIES", x -> {
            for (int list = 0; list < 12; list++) {
                due("count(" + list + ")", x.count(list), 0);
                due("top(" + list + ", 0)", x.top(list, 0), BAD);
                due("lose(" + list + ", 0)", x.lose(list, 0), BAD);
            }
            due("count(17)", x.count(17), 0);
        });
        sentence("all KEYS 0", x -> {
            due("key(0, 0)", x.key(0, 0), 1000);
            due("key(511, 0)", x.key(511, 0), 1000);
        });
        sentence("all LISTS LEFT ASIDE", x -> {
            due("count(12)", x.count(12), 0);
            due("count(13)", x.count(13), 0);
            due("count(14)", x.count(14), 0);
            due("ask(0, 0, 1)", x.ask(0, ASIDE, 1), 10);
            due("ask(11, 0, 1)", x.ask(11, ASIDE, 1), 10);
        });
        sentence("no PLACE", x -> {
            asked(x, 0, 0, 1);
            due("walk(9)", x.walk(9), 1);
            due("place(0, 0)", x.place(0, 0), 0);
        });
        sentence("no ANSWERS", x -> {
            due("count(16)", x.count(16), 0);
            for (int what = 0; what < 4; what++) {
                due("answer(0, " + what + ")", x.answer(0, what), BAD);
            }
            due("anew(0, 0)", x.anew(0, 0), NONE);
        });
        sentence("BoundEnding()", "nothing is shared with one made before", x -> {
            asked(x, 0, 0, 1);
            x.key(0, 9);
            x.wanted(1);
            x.place(500, 0);
            x.walk(9);
            BoundEnding y = new BoundEnding();
            due("count(0)", y.count(0), 0);
            due("count(12)", y.count(12), 0);
            due("count(15)", y.count(15), 10);
            due("count(16)", y.count(16), 0);
            due("key(0, 0)", y.key(0, 0), 1000);
            due("place(-1, 0)", y.place(-1, 0), 0);
            due("told(0)", y.told(0), 0);
        });
    }

    private static void promise2() {
        part = "Promise 2, entry";
        sentence("An ENTRY comes to a LIST", "the least and greatest LIST, OBJECT, SCORE", x -> {
            due("entry(0, 0, 1)", x.entry(0, 0, 1), 1);
            due("entry(0, 511, 100)", x.entry(0, 511, 100), 2);
            due("entry(11, 0, 100)", x.entry(11, 0, 100), 1);
            due("entry(11, 511, 1)", x.entry(11, 511, 1), 2);
            due("top(0, 0)", x.top(0, 0), 100);
            due("top(11, 0)", x.top(11, 0), 100);
        });
        sentence("in place of that of this OBJECT: how many it has.", x -> {
            fill(x, 0, 1, 10, 2, 20, 3, 30);
            due("entry(0, 2, 5)", x.entry(0, 2, 5), 3);
            x.ask(0, ASKED, 1);
            due("sum(1)", x.sum(1), 10);
            due("sum(2)", x.sum(2), 5);
            due("sum(3)", x.sum(3), 30);
        });
        sentence("in place of that of this OBJECT: how many it has.", "to a LIST of 120", x -> {
            fillAll(x, 0, 10, 129, 1);
            due("entry(0, 10, 7)", x.entry(0, 10, 7), 120);
            due("top(0, 0)", x.top(0, 0), 7);
            due("entry(0, 129, 8)", x.entry(0, 129, 8), 120);
            due("top(0, 14)", x.top(0, 14), 8);
        });
        sentence("BAD: no LIST, OBJECT, SCORE.", "no LIST", x -> {
            for (int list : outside(0, 11)) {
                due("entry(" + list + ", 0, 1)", x.entry(list, 0, 1), BAD);
            }
            due("count(17)", x.count(17), 0);
        });
        sentence("BAD: no LIST, OBJECT, SCORE.", "no OBJECT", x -> {
            for (int object : outside(0, 511)) {
                due("entry(0, " + object + ", 1)", x.entry(0, object, 1), BAD);
            }
            due("count(0)", x.count(0), 0);
        });
        sentence("BAD: no LIST, OBJECT, SCORE.", "no SCORE", x -> {
            x.entry(0, 0, 50);
            for (int score : outside(1, 100)) {
                due("entry(0, 0, " + score + ")", x.entry(0, 0, score), BAD);
                due("entry(0, 1, " + score + ")", x.entry(0, 1, score), BAD);
            }
            due("count(0)", x.count(0), 1);
            due("top(0, 0)", x.top(0, 0), 50);
        });
        sentence("FULL: 120.", "119, 120, one more", x -> {
            fillAll(x, 0, 100, 218, 1);
            due("entry(0, 300, 2) to 119", x.entry(0, 300, 2), 120);
            due("entry(0, 301, 2) to 120", x.entry(0, 301, 2), FULL);
            due("entry(0, 0, 2) to 120", x.entry(0, 0, 2), FULL);
            due("entry(0, 150, 2) to 120", x.entry(0, 150, 2), 120);
        });
        sentence("FULL: 120.", "it changes nothing", x -> {
            fillAll(x, 0, 100, 219, 1);
            x.ask(0, ASKED, 1);
            due("entry(0, 300, 9)", x.entry(0, 300, 9), FULL);
            due("count(0)", x.count(0), 120);
            due("count(17)", x.count(17), 120);
            due("fits(300)", x.fits(300), 0);
            due("sum(300)", x.sum(300), 0);
            due("top(0, -1)", x.top(0, -1), 1);
            due("top(0, 14)", x.top(0, 14), 1);
            due("top(0, 15)", x.top(0, 15), BAD);
            due("lose(0, 300)", x.lose(0, 300), BAD);
        });
        sentence("FULL: 120.", "of each LIST by itself, and not for good", x -> {
            fillAll(x, 0, 100, 219, 1);
            due("entry(1, 300, 9)", x.entry(1, 300, 9), 1);
            due("lose(0, 219)", x.lose(0, 219), 119);
            due("entry(0, 300, 9)", x.entry(0, 300, 9), 120);
            due("entry(0, 219, 9)", x.entry(0, 219, 9), FULL);
        });
        sentence("FULL: 120.", "what is BAD stays so", x -> {
            fillAll(x, 0, 100, 219, 1);
            due("entry(0, 512, 1)", x.entry(0, 512, 1), BAD);
            due("entry(0, 300, 0)", x.entry(0, 300, 0), BAD);
            due("entry(0, 300, 101)", x.entry(0, 300, 101), BAD);
        });
    }

    private static void promise3() {
        part = "Promise 3, lose";
        sentence("An ENTRY goes: how many are left.", "the first, one between, the last, the only one", x -> {
            fill(x, 0, 0, 1, 5, 2, 9, 3, 511, 4);
            due("lose(0, 0)", x.lose(0, 0), 3);
            due("lose(0, 9)", x.lose(0, 9), 2);
            due("top(0, -1)", x.top(0, -1), 4);
            due("lose(0, 511)", x.lose(0, 511), 1);
            due("top(0, -1)", x.top(0, -1), 2);
            due("lose(0, 5)", x.lose(0, 5), 0);
            due("count(0)", x.count(0), 0);
            due("top(0, 0)", x.top(0, 0), BAD);
        });
        sentence("An ENTRY goes: how many are left.", "of 120", x -> {
            fillAll(x, 0, 0, 119, 1);
            due("lose(0, 119)", x.lose(0, 119), 119);
            due("lose(0, 0)", x.lose(0, 0), 118);
            due("count(0)", x.count(0), 118);
        });
        sentence("BAD: no LIST, no such ENTRY.", "no LIST", x -> {
            x.entry(0, 0, 1);
            x.entry(11, 0, 1);
            for (int list : outside(0, 11)) {
                due("lose(" + list + ", 0)", x.lose(list, 0), BAD);
            }
            due("count(0)", x.count(0), 1);
            due("count(11)", x.count(11), 1);
        });
        sentence("BAD: no LIST, no such ENTRY.", "no such OBJECT", x -> {
            x.entry(0, 0, 1);
            x.entry(0, 511, 1);
            for (int object : outside(0, 511)) {
                due("lose(0, " + object + ")", x.lose(0, object), BAD);
            }
            due("count(0)", x.count(0), 2);
        });
        sentence("BAD: no LIST, no such ENTRY.", "one that another LIST has, one that is lost", x -> {
            fill(x, 0, 4, 1, 6, 1);
            fill(x, 1, 5, 1);
            due("lose(0, 5)", x.lose(0, 5), BAD);
            due("lose(2, 5)", x.lose(2, 5), BAD);
            due("lose(0, 4)", x.lose(0, 4), 1);
            due("lose(0, 4)", x.lose(0, 4), BAD);
            due("count(0)", x.count(0), 1);
            due("count(1)", x.count(1), 1);
        });
    }

    private static void promise4() {
        part = "Promise 4, key";
        sentence("An OBJECT's KEY (- 1,000 .. 1,000)", "the least and the greatest", x -> {
            due("key(0, -1000)", x.key(0, -1000), 1000);
            due("key(0, 1000)", x.key(0, 1000), 0);
            due("key(0, 0)", x.key(0, 0), 2000);
            due("key(511, 1000)", x.key(511, 1000), 1000);
            due("key(511, 0)", x.key(511, 0), 2000);
        });
        sentence("what it was, and 1,000.", x -> {
            due("key(3, -1)", x.key(3, -1), 1000);
            due("key(3, 1)", x.key(3, 1), 999);
            due("key(3, 1)", x.key(3, 1), 1001);
            due("key(3, 0)", x.key(3, 0), 1001);
        });
        sentence("BAD: no OBJECT, another KEY.", "no OBJECT", x -> {
            for (int object : outside(0, 511)) {
                due("key(" + object + ", 7)", x.key(object, 7), BAD);
            }
            due("key(0, 0)", x.key(0, 0), 1000);
            due("key(511, 0)", x.key(511, 0), 1000);
        });
        sentence("BAD: no OBJECT, another KEY.", "another KEY", x -> {
            x.key(0, 7);
            for (int v : outside(-1000, 1000)) {
                due("key(0, " + v + ")", x.key(0, v), BAD);
            }
            due("key(0, 0)", x.key(0, 0), 1007);
        });
    }

    private static void promise5() {
        part = "Promise 5, top";
        sentence("The TOP of BLOCK k of a LIST", "the first and the last BLOCK of a full LIST", x -> {
            fillAll(x, 11, 0, 119, 1);
            fill(x, 11, 0, 3, 112, 4, 119, 5);
            due("top(11, 0)", x.top(11, 0), 3);
            due("top(11, 13)", x.top(11, 13), 1);
            due("top(11, 14)", x.top(11, 14), 5);
            due("top(11, 15)", x.top(11, 15), BAD);
        });
        sentence("k = - 1: of the LIST.", x -> {
            due("top(0, -1) without ENTRIES", x.top(0, -1), 0);
            fillAll(x, 0, 0, 9, 2);
            x.entry(0, 9, 60);
            due("top(0, -1)", x.top(0, -1), 60);
            due("top(0, 0)", x.top(0, 0), 2);
        });
        sentence("BAD: no LIST, no such BLOCK.", "no LIST", x -> {
            for (int list : outside(0, 11)) {
                due("top(" + list + ", -1)", x.top(list, -1), BAD);
                due("top(" + list + ", 0)", x.top(list, 0), BAD);
            }
        });
        sentence("BAD: no LIST, no such BLOCK.", "no such BLOCK", x -> {
            due("top(0, 0) without ENTRIES", x.top(0, 0), BAD);
            fillAll(x, 0, 0, 7, 2);
            due("top(0, 0) of 8", x.top(0, 0), 2);
            due("top(0, 1) of 8", x.top(0, 1), BAD);
            x.entry(0, 8, 3);
            due("top(0, 1) of 9", x.top(0, 1), 3);
            due("top(0, 2) of 9", x.top(0, 2), BAD);
            due("top(0, -2)", x.top(0, -2), BAD);
            for (int k : outside(-1, 1)) {
                due("top(0, " + k + ")", x.top(0, k), BAD);
            }
            // Numbers whose eightfold wraps around.
            due("top(0, 1 << 29)", x.top(0, 1 << 29), BAD);
            due("top(0, 7 << 29)", x.top(0, 7 << 29), BAD);
        });
        sentence("BAD: no LIST, no such BLOCK.", "one that was lost", x -> {
            fillAll(x, 0, 0, 8, 2);
            x.lose(0, 3);
            due("top(0, 1)", x.top(0, 1), BAD);
        });
    }

    private static void promise6() {
        part = "Promise 6, ask";
        sentence("LEFT ASIDE (how 0), ASKED (1), NEEDED (2), BARRED (3)", x -> {
            int[] counted = {12, 13, 14};
            int[][] want = {{0, 0, 0}, {1, 0, 0}, {1, 1, 0}, {0, 0, 1}};
            for (int how = 0; how < 4; how++) {
                x.ask(5, how, 1);
                for (int i = 0; i < 3; i++) {
                    due("count(" + counted[i] + ") of how " + how, x.count(counted[i]), want[how][i]);
                }
            }
        });
        sentence("with a WEIGHT: what it was (10 times WEIGHT, and how).", x -> {
            due("ask(0, 3, 9)", x.ask(0, BARRED, 9), 10);
            due("ask(0, 2, 1)", x.ask(0, NEEDED, 1), 93);
            due("ask(0, 1, 5)", x.ask(0, ASKED, 5), 12);
            due("ask(0, 0, 9)", x.ask(0, ASIDE, 9), 51);
            due("ask(0, 0, 1)", x.ask(0, ASIDE, 1), 90);
            due("ask(0, 0, 1)", x.ask(0, ASIDE, 1), 10);
            due("ask(11, 0, 1)", x.ask(11, ASIDE, 1), 10);
        });
        sentence("BAD: no LIST, another how, WEIGHT.", "no LIST", x -> {
            for (int list : outside(0, 11)) {
                due("ask(" + list + ", 1, 1)", x.ask(list, ASKED, 1), BAD);
            }
            due("count(12)", x.count(12), 0);
        });
        sentence("BAD: no LIST, another how, WEIGHT.", "another how", x -> {
            x.ask(0, NEEDED, 7);
            for (int how : outside(0, 3)) {
                due("ask(0, " + how + ", 2)", x.ask(0, how, 2), BAD);
            }
            due("ask(0, 0, 1)", x.ask(0, ASIDE, 1), 72);
        });
        sentence("BAD: no LIST, another how, WEIGHT.", "another WEIGHT", x -> {
            x.ask(0, NEEDED, 7);
            for (int weight : outside(1, 9)) {
                for (int how = 0; how < 4; how++) {
                    due("ask(0, " + how + ", " + weight + ")", x.ask(0, how, weight), BAD);
                }
            }
            due("ask(0, 0, 1)", x.ask(0, ASIDE, 1), 72);
        });
    }

    private static void promise7() {
        part = "Promise 7, wanted";
        sentence("n are WANTED: how many were.", x -> {
            due("wanted(1)", x.wanted(1), 10);
            due("wanted(20)", x.wanted(20), 1);
            due("wanted(20)", x.wanted(20), 20);
            due("count(15)", x.count(15), 20);
        });
        sentence("BAD: not 1 .. 20.", x -> {
            x.wanted(3);
            for (int n : outside(1, 20)) {
                due("wanted(" + n + ")", x.wanted(n), BAD);
            }
            due("count(15)", x.count(15), 3);
            fillAll(x, 0, 0, 9, 1);
            x.ask(0, ASKED, 1);
            due("walk(9)", x.walk(9), 3);
        });
    }

    private static void promise8() {
        part = "Promise 8, place";
        sentence("a SUM (0 .. 10,800) and an OBJECT", "the least and the greatest", x -> {
            due("place(0, 0)", x.place(0, 0), 0);
            due("place(10800, 511)", x.place(10800, 511), 1);
            due("place(0, 511)", x.place(0, 511), 1);
            due("place(10800, 0)", x.place(10800, 0), 1);
        });
        sentence("a SUM (0 .. 10,800) and an OBJECT", "the greatest SUM there is", x -> {
            for (int list = 0; list < 12; list++) {
                x.entry(list, 510, 100);
                x.entry(list, 511, 100);
                x.ask(list, ASKED, 9);
            }
            x.place(10800, 510);
            due("walk(9)", x.walk(9), 1);
            dueObjects(x, 511);
            x.place(10800, 511);
            due("walk(9)", x.walk(9), 0);
        });
        sentence("a SUM (0 .. 10,800) and an OBJECT", "behind 0 there is nothing", x -> {
            asked(x, 0, 511, 1);
            x.place(0, 0);
            due("walk(9)", x.walk(9), 0);
        });
        sentence("none (sum = - 1, whatever the OBJECT)", x -> {
            asked(x, 0, 1, 1);
            for (int object : outside(0, 511)) {
                x.place(0, 0);
                due("place(-1, " + object + ")", x.place(-1, object), 1);
                due("walk(9)", x.walk(9), 1);
            }
            due("place(-1, 0)", x.place(-1, 0), 0);
            due("place(-1, 511)", x.place(-1, 511), 0);
        });
        sentence("1 there was one, 0.", x -> {
            due("place(5, 5)", x.place(5, 5), 0);
            due("place(6, 6)", x.place(6, 6), 1);
            due("place(-1, 6)", x.place(-1, 6), 1);
            due("place(-1, 6)", x.place(-1, 6), 0);
            due("place(6, 6)", x.place(6, 6), 0);
        });
        sentence("BAD: another SUM, no OBJECT.", "another SUM", x -> {
            for (int sum : outside(-1, 10800)) {
                due("place(" + sum + ", 0)", x.place(sum, 0), BAD);
            }
            due("place(-1, 0)", x.place(-1, 0), 0);
        });
        sentence("BAD: another SUM, no OBJECT.", "no OBJECT", x -> {
            for (int object : outside(0, 511)) {
                due("place(0, " + object + ")", x.place(0, object), BAD);
                due("place(10800, " + object + ")", x.place(10800, object), BAD);
            }
            due("place(-1, 0)", x.place(-1, 0), 0);
        });
        sentence("BAD: another SUM, no OBJECT.", "THE PLACE that is told stays", x -> {
            asked(x, 0, 1, 5, 2, 5, 3, 5);
            x.place(5, 2);
            due("place(10801, 0)", x.place(10801, 0), BAD);
            due("place(-2, 0)", x.place(-2, 0), BAD);
            due("place(9, 512)", x.place(9, 512), BAD);
            due("walk(9)", x.walk(9), 1);
            dueObjects(x, 3);
            due("place(-1, 0)", x.place(-1, 0), 1);
        });
    }

    private static void promises9To11() {
        part = "Promise 9, fits";
        sentence("Whether an OBJECT FITS: 1, 0.", "the least and the greatest OBJECT", x -> {
            due("fits(0)", x.fits(0), 0);
            due("fits(511)", x.fits(511), 0);
            asked(x, 0, 0, 1, 511, 1);
            due("fits(0)", x.fits(0), 1);
            due("fits(511)", x.fits(511), 1);
        });
        sentence("Whether an OBJECT FITS: 1, 0.", "no PLACE is looked at", x -> {
            asked(x, 0, 0, 1);
            x.place(0, 511);
            due("fits(0)", x.fits(0), 1);
        });
        sentence("BAD: none such.", x -> {
            asked(x, 0, 0, 1, 511, 1);
            for (int object : outside(0, 511)) {
                due("fits(" + object + ")", x.fits(object), BAD);
            }
        });
        part = "Promise 10, sum";
        sentence("The SUM of an OBJECT (whether it FITS or not", x -> {
            asked(x, 0, 7, 10);
            needed(x, 1, 8, 10);
            fill(x, 2, 7, 10);
            x.ask(2, BARRED, 9);
            due("fits(7)", x.fits(7), 0);
            due("sum(7)", x.sum(7), 10);
        });
        sentence("0: it is in no LIST that is ASKED)", x -> {
            fill(x, 0, 7, 10);
            fill(x, 1, 7, 10);
            x.ask(1, BARRED, 9);
            asked(x, 2, 8, 10);
            due("sum(7)", x.sum(7), 0);
            due("sum(0)", x.sum(0), 0);
            due("sum(511)", x.sum(511), 0);
        });
        sentence("The SUM of an OBJECT", "the greatest there is", x -> {
            for (int list = 0; list < 12; list++) {
                x.entry(list, 511, 100);
                x.ask(list, list % 2 == 0 ? ASKED : NEEDED, 9);
            }
            due("sum(511)", x.sum(511), 10800);
        });
        sentence("BAD: none such.", x -> {
            asked(x, 0, 0, 1, 511, 1);
            for (int object : outside(0, 511)) {
                due("sum(" + object + ")", x.sum(object), BAD);
            }
        });
        part = "Promise 11, total";
        sentence("How many OBJECTS FIT", "none, the least and the greatest", x -> {
            due("total(512)", x.total(512), 0);
            due("total(1)", x.total(1), 0);
            asked(x, 0, 0, 1, 511, 1);
            due("total(512)", x.total(512), 2);
            x.lose(0, 0);
            due("total(1)", x.total(1), 1);
        });
        sentence("up to so many (most 1 .. 512), not on.", "one less, as many, one more", x -> {
            asked(x, 0, 3, 1, 100, 1, 511, 1);
            due("total(2)", x.total(2), 2);
            due("total(3)", x.total(3), 3);
            due("total(4)", x.total(4), 3);
            due("total(1)", x.total(1), 1);
            due("total(512)", x.total(512), 3);
        });
        sentence("up to so many (most 1 .. 512), not on.", "as many OBJECTS as 512 calls can bring", x -> {
            for (int object = 0; object < 500; object++) {
                x.entry(object / 120, object, 1);
            }
            for (int list = 0; list < 5; list++) {
                x.ask(list, ASKED, 1);
            }
            due("total(512)", x.total(512), 500);
            due("total(500)", x.total(500), 500);
            due("total(499)", x.total(499), 499);
        });
        sentence("BAD: another most.", x -> {
            asked(x, 0, 3, 1);
            for (int most : outside(1, 512)) {
                due("total(" + most + ")", x.total(most), BAD);
            }
        });
        sentence("(No PLACE is looked at.)", x -> {
            asked(x, 0, 3, 1, 4, 1);
            x.place(0, 511);
            due("total(512)", x.total(512), 2);
        });
    }

    private static void promise12() {
        part = "Promise 12, walk";
        sentence("THE WALK with so much WORK (1 .. 10,000)", "1", x -> {
            asked(x, 0, 3, 1, 4, 1);
            due("walk(1)", x.walk(1), 1);
            due("told(0)", x.told(0), 1);
            due("told(4)", x.told(4), CUT_OFF);
        });
        sentence("THE WALK with so much WORK (1 .. 10,000)", "10,000", x -> {
            for (int object = 0; object < 500; object++) {
                x.entry(object / 120, object, 1);
            }
            for (int list = 0; list < 5; list++) {
                x.ask(list, ASKED, 1);
            }
            x.place(0, 0);
            due("walk(10000)", x.walk(10000), 0);
            dueTold(x, 501, 500, 0, 0, AT_END);
        });
        sentence("how many ANSWERS.", "none, less than n, n, not more", x -> {
            due("walk(99)", x.walk(99), 0);
            asked(x, 0, 0, 1);
            x.wanted(2);
            due("walk(99)", x.walk(99), 1);
            x.entry(0, 1, 1);
            due("walk(99)", x.walk(99), 2);
            x.entry(0, 2, 1);
            due("walk(99)", x.walk(99), 2);
        });
        sentence("BAD: another WORK.", "it is no walk()", x -> {
            asked(x, 0, 3, 1);
            for (int work : outside(1, 10000)) {
                due("walk(" + work + ")", x.walk(work), BAD);
            }
            dueTold(x, 0, 0, 0, 0, 0, 0, 0);
            dueObjects(x);
            due("anew(1, 1)", x.anew(1, 1), NONE);
        });
        sentence("BAD: another WORK.", "what the latest one told and answered stays", x -> {
            asked(x, 0, 3, 1, 4, 2);
            x.keys();
            x.walk(2);
            x.lose(0, 3);
            due("walk(0)", x.walk(0), BAD);
            due("walk(10001)", x.walk(10001), BAD);
            dueTold(x, 2, 2, 0, 0, CUT_OFF, 0, 512, 1, 0);
            dueObjects(x, 4, 3);
        });
        sentence("BAD: another WORK.", "ANSWERS of keys() stay such", x -> {
            asked(x, 0, 3, 10);
            x.key(3, 1);
            x.keys();
            due("walk(0)", x.walk(0), BAD);
            dueNumbers(x, 1);
            x.anew(1, 1);
            dueNumbers(x, 11);
        });
    }

    private static void promise13() {
        part = "Promise 13, keys";
        sentence("ANSWERS BY KEYS: how many.", "none, less than n, n, not more", x -> {
            due("keys()", x.keys(), 0);
            asked(x, 0, 0, 1);
            x.wanted(2);
            due("keys()", x.keys(), 1);
            x.entry(0, 1, 1);
            due("keys()", x.keys(), 2);
            x.entry(0, 2, 1);
            due("keys()", x.keys(), 2);
            x.entry(0, 511, 1);
            due("keys()", x.keys(), 2);
        });
        sentence("ANSWERS BY KEYS: how many.", "none FITS, though there are ZONES", x -> {
            fill(x, 0, 0, 1, 511, 1);
            due("keys()", x.keys(), 0);
            due("told(7)", x.told(7), 2);
            due("told(8)", x.told(8), 0);
        });
    }

    private static void promise14() {
        part = "Promise 14, anew";
        sentence("The first m (0 .. 20) ANSWERS are SCORED ANEW", "m is 0", x -> {
            asked(x, 0, 1, 2, 2, 1);
            x.key(1, -9);
            x.walk(9);
            due("anew(0, 9)", x.anew(0, 9), 0);
            dueObjects(x, 1, 2);
            dueNumbers(x, 2, 1);
        });
        sentence("The first m (0 .. 20) ANSWERS are SCORED ANEW", "m is 1", x -> {
            asked(x, 0, 1, 3, 2, 2, 3, 1);
            x.key(1, -1);
            x.key(2, 9);
            x.walk(9);
            due("anew(1, 1)", x.anew(1, 1), 1);
            dueObjects(x, 1, 2, 3);
            dueNumbers(x, 2, 2, 1);
        });
        sentence("The first m (0 .. 20) ANSWERS are SCORED ANEW", "m is 20, of 20", x -> {
            for (int object = 0; object < 20; object++) {
                x.entry(0, object, 1);
                x.key(object, object);
            }
            x.ask(0, ASKED, 1);
            x.wanted(20);
            x.walk(99);
            due("answer(19, 0)", x.answer(19, 0), 19);
            due("anew(20, 1)", x.anew(20, 1), 20);
            for (int k = 0; k < 20; k++) {
                due("answer(" + k + ", 0)", x.answer(k, 0), 19 - k);
                due("answer(" + k + ", 1)", x.answer(k, 1), 20 - k);
            }
        });
        sentence("with f (- 9 .. 9)", "- 9, 0, 9", x -> {
            asked(x, 0, 1, 5);
            x.key(1, 1000);
            x.walk(9);
            x.anew(1, -9);
            dueNumbers(x, -8995);
            x.anew(1, 0);
            dueNumbers(x, -8995);
            x.anew(1, 9);
            dueNumbers(x, 5);
            x.anew(1, 9);
            dueNumbers(x, 9005);
        });
        sentence("how many those are.", "less ANSWERS than m", x -> {
            asked(x, 0, 1, 5, 2, 5);
            x.walk(9);
            due("anew(1, 1)", x.anew(1, 1), 1);
            due("anew(2, 1)", x.anew(2, 1), 2);
            due("anew(3, 1)", x.anew(3, 1), 2);
            due("anew(20, 1)", x.anew(20, 1), 2);
        });
        sentence("how many those are.", "no ANSWERS", x -> {
            x.walk(9);
            due("anew(20, 1)", x.anew(20, 1), 0);
            x.keys();
            due("anew(20, 1)", x.anew(20, 1), 0);
        });
        sentence("BAD: another m, f.", "another m", x -> {
            asked(x, 0, 1, 5);
            x.key(1, 7);
            x.walk(9);
            for (int m : outside(0, 20)) {
                due("anew(" + m + ", 1)", x.anew(m, 1), BAD);
            }
            dueNumbers(x, 5);
        });
        sentence("BAD: another m, f.", "another f", x -> {
            asked(x, 0, 1, 5);
            x.key(1, 7);
            x.walk(9);
            for (int f : outside(-9, 9)) {
                due("anew(1, " + f + ")", x.anew(1, f), BAD);
                due("anew(0, " + f + ")", x.anew(0, f), BAD);
            }
            dueNumbers(x, 5);
        });
        sentence("BAD: another m, f.", "before the first walk() or keys(), too", x -> {
            due("anew(-1, 0)", x.anew(-1, 0), BAD);
            due("anew(21, 0)", x.anew(21, 0), BAD);
            due("anew(0, -10)", x.anew(0, -10), BAD);
            due("anew(0, 10)", x.anew(0, 10), BAD);
        });
        sentence("NONE: there was no walk(), keys().", x -> {
            asked(x, 0, 1, 5);
            due("anew(0, 0)", x.anew(0, 0), NONE);
            due("anew(20, 9)", x.anew(20, 9), NONE);
            due("anew(0, -9)", x.anew(0, -9), NONE);
            due("walk(0)", x.walk(0), BAD);
            due("anew(1, 1)", x.anew(1, 1), NONE);
            due("count(16)", x.count(16), 0);
        });
        sentence("NONE: there was no walk(), keys().", "a walk() alone is enough", x -> {
            x.walk(1);
            due("anew(0, 0)", x.anew(0, 0), 0);
        });
        sentence("NONE: there was no walk(), keys().", "a keys() alone is enough", x -> {
            x.keys();
            due("anew(0, 0)", x.anew(0, 0), 0);
        });
        sentence("(Once more: of the numbers that they have then.)", "behind walk()", x -> {
            asked(x, 0, 1, 30, 2, 20);
            x.key(1, -4);
            x.key(2, 4);
            x.walk(9);
            x.anew(2, 1);
            dueNumbers(x, 26, 24);
            x.anew(2, 1);
            dueObjects(x, 2, 1);
            dueNumbers(x, 28, 22);
        });
        sentence("(Once more: of the numbers that they have then.)", "behind keys()", x -> {
            asked(x, 0, 1, 30, 2, 20);
            x.key(1, -4);
            x.key(2, 11);
            x.keys();
            x.anew(2, 1);
            dueObjects(x, 2, 1);
            dueNumbers(x, 31, 26);
            x.anew(2, 1);
            dueObjects(x, 1, 2);
            dueNumbers(x, 56, 51);
        });
        sentence("(Once more: of the numbers that they have then.)", "a new walk() begins with SUMS again", x -> {
            asked(x, 0, 1, 30);
            x.key(1, 4);
            x.walk(9);
            x.anew(1, 1);
            x.walk(9);
            dueNumbers(x, 30);
            x.keys();
            x.anew(1, 1);
            x.keys();
            dueNumbers(x, 4);
        });
    }

    private static void promise15() {
        part = "Promise 15, answer";
        sentence("0 the OBJECT, 1 its number (SUM, behind keys() KEY; or that ANEW), 2 its SUM, 3 its KEY", "behind walk()", x -> {
            asked(x, 0, 30, 10);
            x.key(30, 7);
            x.walk(9);
            due("answer(0, 0)", x.answer(0, 0), 30);
            due("answer(0, 1)", x.answer(0, 1), 10);
            x.anew(1, 2);
            due("answer(0, 1) ANEW", x.answer(0, 1), 24);
            due("answer(0, 2)", x.answer(0, 2), 10);
            due("answer(0, 3)", x.answer(0, 3), 7);
        });
        sentence("0 the OBJECT, 1 its number (SUM, behind keys() KEY; or that ANEW), 2 its SUM, 3 its KEY", "behind keys()", x -> {
            asked(x, 0, 30, 10);
            x.key(30, 7);
            x.keys();
            due("answer(0, 0)", x.answer(0, 0), 30);
            due("answer(0, 1)", x.answer(0, 1), 7);
            x.anew(1, 2);
            due("answer(0, 1) ANEW", x.answer(0, 1), 27);
            due("answer(0, 2)", x.answer(0, 2), 10);
            due("answer(0, 3)", x.answer(0, 3), 7);
        });
        sentence("as they were at the walk() or keys().", x -> {
            asked(x, 0, 30, 10);
            x.key(30, 7);
            for (int way = 0; way < 2; way++) {
                due("how many", way == 0 ? x.walk(9) : x.keys(), 1);
                x.key(30, 9);
                x.ask(0, ASKED, 3);
                x.entry(0, 30, 99);
                x.lose(0, 30);
                x.place(0, 0);
                due("answer(0, 0)", x.answer(0, 0), 30);
                due("answer(0, 1)", x.answer(0, 1), way == 0 ? 10 : 7);
                due("answer(0, 2)", x.answer(0, 2), 10);
                due("answer(0, 3)", x.answer(0, 3), 7);
                x.anew(1, 1);
                due("answer(0, 1) ANEW", x.answer(0, 1), 17);
                x.key(30, 7);
                asked(x, 0, 30, 10);
                x.place(-1, 0);
            }
        });
        sentence("BAD: none such.", "no such ANSWER", x -> {
            asked(x, 0, 30, 10, 40, 5);
            x.walk(9);
            due("answer(1, 0)", x.answer(1, 0), 40);
            for (int what = 0; what < 4; what++) {
                for (int k : outside(0, 1)) {
                    due("answer(" + k + ", " + what + ")", x.answer(k, what), BAD);
                }
            }
        });
        sentence("BAD: none such.", "of 20 ANSWERS", x -> {
            fillAll(x, 0, 0, 24, 1);
            x.ask(0, ASKED, 1);
            x.wanted(20);
            x.walk(99);
            due("answer(19, 0)", x.answer(19, 0), 19);
            due("answer(20, 0)", x.answer(20, 0), BAD);
        });
        sentence("BAD: none such.", "another what", x -> {
            asked(x, 0, 30, 10);
            x.walk(9);
            for (int what : outside(0, 3)) {
                due("answer(0, " + what + ")", x.answer(0, what), BAD);
            }
        });
        sentence("BAD: none such.", "one that there was before the latest walk()", x -> {
            asked(x, 0, 30, 10, 40, 5);
            x.walk(9);
            x.wanted(1);
            due("answer(1, 0) before", x.answer(1, 0), 40);
            x.walk(9);
            due("answer(1, 0)", x.answer(1, 0), BAD);
        });
        sentence("(Numbers below 0 may look so.)", x -> {
            asked(x, 0, 30, 1);
            x.key(30, -1);
            x.keys();
            due("answer(0, 1)", x.answer(0, 1), -1);
            due("answer(0, 3)", x.answer(0, 3), -1);
            due("answer(0, 2)", x.answer(0, 2), 1);
            x.anew(1, -1);
            due("answer(0, 1)", x.answer(0, 1), -2);
            x.anew(1, -1);
            due("answer(0, 1)", x.answer(0, 1), -3);
        });
    }

    private static void promise16() {
        part = "Promise 16, told";
        sentence("0 STEPS (that at which it ended, too)", "END", x -> {
            x.walk(9);
            due("told(0)", x.told(0), 1);
            asked(x, 0, 4, 1);
            x.walk(9);
            due("told(0)", x.told(0), 2);
        });
        sentence("0 STEPS (that at which it ended, too)", "EARLY", x -> {
            asked(x, 0, 4, 1, 5, 1);
            x.wanted(1);
            x.walk(9);
            due("told(0)", x.told(0), 2);
            due("told(4)", x.told(4), EARLY);
        });
        sentence("0 STEPS (that at which it ended, too)", "CUT OFF", x -> {
            asked(x, 0, 4, 1, 5, 1);
            x.walk(1);
            due("told(0)", x.told(0), 1);
        });
        sentence("1 OBJECTS JUDGED", "an OBJECT of many LISTS once", x -> {
            for (int list = 0; list < 12; list++) {
                asked(x, list, 4, 1);
            }
            x.walk(9);
            due("told(1)", x.told(1), 1);
        });
        sentence("2 SKIPS", "none by STEPS 3 and 5, each by STEP 4", x -> {
            asked(x, 0, 0, 10, 1, 1, 2, 1, 3, 1, 4, 1, 5, 1, 6, 1, 7, 1, 8, 20);
            asked(x, 1, 5, 3);
            x.wanted(1);
            // Behind 0 one to 5. There 10 and 3 are above 10; behind it one to 8.
            x.walk(9);
            dueTold(x, 6, 3, 2, 6, AT_END, 20, 512);
        });
        sentence("3 ENTRIES PASSED", "by STEPS 3, 4 and 5 together", x -> {
            asked(x, 0, 2, 10, 3, 1, 15, 1);
            asked(x, 1, 2, 1, 6, 1, 7, 1, 8, 1, 9, 1, 10, 1, 11, 1, 12, 1, 20, 20);
            needed(x, 2, 2, 1, 6, 1, 20, 1);
            asked(x, 3, 0, 1, 1, 1);
            x.wanted(1);
            // To 2, over 0 and 1 (STEP 3), which is JUDGED: FLOOR 12. Then q is 6, LINE 0 at 3; BLOCKS 10, 1 and 1
            // are not above 12: a SKIP to 13, over 3, 6 .. 12 and 6. There q is 20, where LINE 2 is: over 15 (STEP 5).
            x.walk(9);
            dueTold(x, 6, 2, 1, 2 + 1 + 7 + 1 + 1, AT_END, 21, 512);
            x.walk(1);
            due("told(3) behind 1", x.told(3), 2);
            x.walk(3);
            due("told(3) behind 3", x.told(3), 11);
        });
        sentence("4 how it ended (0 at its END, 1 EARLY, 2 CUT OFF)", x -> {
            asked(x, 0, 4, 1, 5, 1);
            x.walk(9);
            due("told(4)", x.told(4), 0);
            x.wanted(1);
            x.walk(9);
            due("told(4)", x.told(4), 1);
            x.walk(1);
            due("told(4)", x.told(4), 2);
        });
        sentence("5 FLOOR", "of the walk(), not of keys() or anew()", x -> {
            asked(x, 0, 4, 6, 5, 8);
            x.key(4, 1);
            x.key(5, 2);
            x.wanted(2);
            x.walk(9);
            x.anew(2, 9);
            due("told(5)", x.told(5), 6);
            x.keys();
            due("told(5)", x.told(5), 6);
        });
        sentence("6 the least OBJECT at which a LINE stands (512: none)", "0, 511, none", x -> {
            asked(x, 0, 0, 1, 511, 1);
            x.ask(1, NEEDED, 1);
            x.walk(9);
            due("told(6)", x.told(6), 0);
            x.ask(1, ASIDE, 1);
            x.walk(1);
            due("told(6)", x.told(6), 511);
            x.walk(9);
            due("told(6)", x.told(6), 512);
        });
        sentence("6 the least OBJECT at which a LINE stands (512: none)", "of some LINES", x -> {
            asked(x, 0, 1, 1, 9, 1);
            asked(x, 1, 1, 1, 3, 1);
            asked(x, 2, 1, 1, 7, 1);
            x.walk(1);
            due("told(6)", x.told(6), 3);
        });
        sentence("Of the latest walk()", "all anew at each", x -> {
            asked(x, 0, 0, 10, 1, 1, 2, 1, 3, 1, 4, 1, 5, 1, 6, 1, 7, 1, 8, 20);
            x.wanted(1);
            x.walk(9);
            x.walk(9);
            dueTold(x, 4, 2, 1, 7, AT_END, 20, 512);
            x.ask(0, ASIDE, 1);
            x.walk(9);
            dueTold(x, 1, 0, 0, 0, AT_END, 0, 512);
        });
        sentence("Of the latest keys(): 7 ZONES, 8 of them PASSED BY.", "all anew at each", x -> {
            asked(x, 0, 0, 1, 16, 1, 32, 1);
            x.wanted(1);
            x.keys();
            x.keys();
            due("told(7)", x.told(7), 3);
            due("told(8)", x.told(8), 2);
            x.lose(0, 32);
            x.wanted(2);
            x.keys();
            due("told(7)", x.told(7), 2);
            due("told(8)", x.told(8), 0);
        });
        sentence("Of the latest keys(): 7 ZONES, 8 of them PASSED BY.", "a walk() leaves them, and they leave the walk's", x -> {
            asked(x, 0, 4, 1, 16, 1);
            x.wanted(1);
            x.keys();
            x.walk(9);
            dueTold(x, 2, 1, 0, 0, EARLY, 1, 16, 2, 1);
            x.lose(0, 16);
            x.keys();
            dueTold(x, 2, 1, 0, 0, EARLY, 1, 16, 1, 0);
        });
        sentence("BAD: another number.", x -> {
            asked(x, 0, 4, 1);
            x.walk(9);
            x.keys();
            for (int what : outside(0, 8)) {
                due("told(" + what + ")", x.told(what), BAD);
            }
            due("told(8)", x.told(8), 0);
        });
        sentence("(0 before.)", "before all", x -> {
            asked(x, 0, 4, 1);
            dueTold(x, 0, 0, 0, 0, 0, 0, 0, 0, 0);
        });
        sentence("(0 before.)", "of walk() behind keys() alone", x -> {
            asked(x, 0, 4, 1);
            x.wanted(1);
            x.keys();
            dueTold(x, 0, 0, 0, 0, 0, 0, 0, 1, 0);
        });
        sentence("(0 before.)", "of keys() behind walk() alone", x -> {
            asked(x, 0, 4, 1);
            x.wanted(1);
            x.walk(9);
            due("told(7)", x.told(7), 0);
            due("told(8)", x.told(8), 0);
        });
    }

    private static void promise17() {
        part = "Promise 17, count";
        sentence("0 .. 11 ENTRIES of this LIST", "none, 1, 120", x -> {
            due("count(0)", x.count(0), 0);
            due("count(11)", x.count(11), 0);
            x.entry(0, 511, 1);
            fillAll(x, 11, 0, 119, 1);
            due("count(0)", x.count(0), 1);
            due("count(11)", x.count(11), 120);
            x.entry(11, 400, 1);
            due("count(11)", x.count(11), 120);
        });
        sentence("12 LISTS that are ASKED (also NEEDED), 13 NEEDED, 14 BARRED", "none, all", x -> {
            int[][] want = {{0, 0, 0}, {12, 0, 0}, {12, 12, 0}, {0, 0, 12}};
            for (int how : new int[] {1, 2, 3, 0}) {
                for (int list = 0; list < 12; list++) {
                    x.ask(list, how, 1);
                }
                for (int i = 0; i < 3; i++) {
                    due("count(" + (12 + i) + ") of how " + how, x.count(12 + i), want[how][i]);
                }
            }
        });
        sentence("12 LISTS that are ASKED (also NEEDED), 13 NEEDED, 14 BARRED", "some of each", x -> {
            for (int list = 0; list < 6; list++) {
                x.ask(list, list < 1 ? ASKED : list < 3 ? NEEDED : BARRED, 1);
            }
            due("count(12)", x.count(12), 3);
            due("count(13)", x.count(13), 2);
            due("count(14)", x.count(14), 3);
        });
        sentence("15 WANTED", x -> {
            due("count(15)", x.count(15), 10);
            x.wanted(1);
            due("count(15)", x.count(15), 1);
            x.wanted(20);
            due("count(15)", x.count(15), 20);
        });
        sentence("16 ANSWERS", "none, 20, those there were when less are WANTED", x -> {
            due("count(16)", x.count(16), 0);
            fillAll(x, 0, 0, 24, 1);
            x.ask(0, ASKED, 1);
            x.wanted(20);
            x.walk(99);
            due("count(16)", x.count(16), 20);
            x.wanted(1);
            due("count(16)", x.count(16), 20);
            x.keys();
            due("count(16)", x.count(16), 1);
        });
        sentence("17 OBJECTS that are in some LIST.", "each once, of whatever sort of LIST", x -> {
            due("count(17)", x.count(17), 0);
            for (int list = 0; list < 12; list++) {
                x.entry(list, 0, 1);
                x.ask(list, list % 4, 1);
            }
            due("count(17)", x.count(17), 1);
            x.entry(0, 511, 1);
            x.entry(3, 256, 1);
            due("count(17)", x.count(17), 3);
            for (int list = 0; list < 11; list++) {
                x.lose(list, 0);
            }
            due("count(17)", x.count(17), 3);
            x.lose(11, 0);
            due("count(17)", x.count(17), 2);
        });
        sentence("BAD: another number.", x -> {
            for (int what : outside(0, 17)) {
                due("count(" + what + ")", x.count(what), BAD);
            }
        });
    }

    public static void main(String[] args) {
        publicFace();
        termsOfLists();
        termsOfTheQuestion();
        termsOfTheWalk();
        firstOfTheSteps();
        stepOne();
        stepTwo();
        stepThree();
        stepFour();
        stepsFiveAndSix();
        byKeys();
        answersAndAnew();
        promise1();
        promise2();
        promise3();
        promise4();
        promise5();
        promise6();
        promise7();
        promise8();
        promises9To11();
        promise12();
        promise13();
        promise14();
        promise15();
        promise16();
        promise17();
        System.out.println(sentences + " tests of sentences, " + broken + " of them fail");
        if (wrong != 0) {
            System.exit(1);
        }
    }
}
