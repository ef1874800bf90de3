import java.util.ArrayList;
import java.util.Arrays;
import java.util.Comparator;
import java.util.List;
import java.util.Random;
import java.util.TreeMap;

/** Runs of calls, made by a fixed seed, against a plain model that follows the document's words. */
public final class ModelTest {
    private static final int MOST_CALLS = 512;
    private static final int RUNS = 3000;
    private static int wrong = 0;

    /** What the document says, with maps and sorting, and no care for speed. */
    private static final class Model {
        final List<TreeMap<Integer, Integer>> lists = new ArrayList<>();
        final int[] keys = new int[512];
        final int[] how = new int[12];
        final int[] weight = new int[12];
        final int[] told = new int[9];
        int n = 10;
        int[] place = null;
        /** Each: OBJECT, number, SUM, KEY; null before the first walk() or keys(). */
        List<int[]> answers = null;
        boolean byKeys;

        Model() {
            for (int i = 0; i < 12; i++) {
                lists.add(new TreeMap<>());
            }
            Arrays.fill(weight, 1);
        }

        static boolean in(int v, int least, int most) {
            return least <= v && v <= most;
        }

        int entry(int list, int object, int score) {
            if (!in(list, 0, 11) || !in(object, 0, 511) || !in(score, 1, 100)) return -1;
            TreeMap<Integer, Integer> l = lists.get(list);
            if (l.size() == 120 && !l.containsKey(object)) return -3;
            l.put(object, score);
            return l.size();
        }

        int lose(int list, int object) {
            if (!in(list, 0, 11)) return -1;
            return lists.get(list).remove(object) == null ? -1 : lists.get(list).size();
        }

        int key(int object, int v) {
            if (!in(object, 0, 511) || !in(v, -1000, 1000)) return -1;
            int was = keys[object];
            keys[object] = v;
            return was + 1000;
        }

        int blockTop(int list, int k) {
            List<Integer> scores = new ArrayList<>(lists.get(list).values());
            int top = 0;
            for (int i = 8 * k; i < 8 * k + 8 && i < scores.size(); i++) top = Math.max(top, scores.get(i));
            return top;
        }

        int listTop(int list) {
            int top = 0;
            for (int s : lists.get(list).values()) top = Math.max(top, s);
            return top;
        }

        int top(int list, int k) {
            if (!in(list, 0, 11)) return -1;
            if (k == -1) return listTop(list);
            return k < 0 || (long) k * 8 >= lists.get(list).size() ? -1 : blockTop(list, k);
        }

        int ask(int list, int h, int w) {
            if (!in(list, 0, 11) || !in(h, 0, 3) || !in(w, 1, 9)) return -1;
            int was = 10 * weight[list] + how[list];
            how[list] = h;
            weight[list] = w;
            return was;
        }

        int wanted(int many) {
            if (!in(many, 1, 20)) return -1;
            int was = n;
            n = many;
            return was;
        }

        int place(int sum, int object) {
            if (sum != -1 && (!in(sum, 0, 10800) || !in(object, 0, 511))) return -1;
            int was = place == null ? 0 : 1;
            place = sum == -1 ? null : new int[] {sum, object};
            return was;
        }

        boolean asked(int list) {
            return how[list] == 1 || how[list] == 2;
        }

        boolean fit(int object) {
            boolean any = false;
            for (int l = 0; l < 12; l++) {
                boolean has = lists.get(l).containsKey(object);
                any |= has && asked(l);
                if (how[l] == 2 && !has || how[l] == 3 && has) return false;
            }
            return any;
        }

        int fits(int object) {
            return !in(object, 0, 511) ? -1 : fit(object) ? 1 : 0;
        }

        int sum(int object) {
            if (!in(object, 0, 511)) return -1;
            int s = 0;
            for (int l = 0; l < 12; l++) {
                if (asked(l)) s += weight[l] * lists.get(l).getOrDefault(object, 0);
            }
            return s;
        }

        int total(int most) {
            if (!in(most, 1, 512)) return -1;
            int all = 0;
            for (int o = 0; o < 512; o++) all += fit(o) ? 1 : 0;
            return Math.min(all, most);
        }

        static final Comparator<int[]> ORDER = (a, b) -> a[1] != b[1] ? Integer.compare(b[1], a[1]) : Integer.compare(a[0], b[0]);

        boolean behindPlace(int object) {
            return place == null || ORDER.compare(new int[] {place[1], place[0]}, new int[] {object, sum(object)}) < 0;
        }

        List<int[]> first(List<int[]> all) {
            List<int[]> sorted = new ArrayList<>(all);
            sorted.sort(ORDER);
            return new ArrayList<>(sorted.subList(0, Math.min(n, sorted.size())));
        }

        /** The best of all that FIT and are behind the PLACE, by looking at each. */
        List<int[]> bestOfAll() {
            List<int[]> all = new ArrayList<>();
            for (int o = 0; o < 512; o++) {
                if (fit(o) && behindPlace(o)) all.add(new int[] {o, sum(o), sum(o), keys[o]});
            }
            return first(all);
        }

        /** LINES: LIST to the OBJECT at which it stands. */
        final TreeMap<Integer, Integer> lines = new TreeMap<>();

        void jump(int list, int r) {
            int from = lines.get(list);
            if (from >= r) return;
            told[3] += lists.get(list).subMap(from, r).size();
            Integer to = lists.get(list).ceilingKey(r);
            if (to == null) lines.remove(list);
            else lines.put(list, to);
        }

        void jumpAll(int r) {
            for (int list : new ArrayList<>(lines.keySet())) jump(list, r);
        }

        int floor(List<int[]> held) {
            return held.size() == n ? held.get(n - 1)[1] : 0;
        }

        /** One STEP: 0 END, 1 EARLY, 2 neither. */
        int step(List<int[]> seen) {
            for (int l = 0; l < 12; l++) {
                if (how[l] == 2 && !lines.containsKey(l)) return 0;
            }
            if (lines.isEmpty()) return 0;
            int floor = floor(first(seen));
            List<Integer> order = new ArrayList<>(lines.keySet());
            order.sort((a, b) -> !lines.get(a).equals(lines.get(b)) ? lines.get(a) - lines.get(b) : a - b);
            int q = -1;
            int bound = 0;
            for (int l : order) {
                bound += weight[l] * listTop(l);
                if (bound > floor) {
                    q = lines.get(l);
                    break;
                }
            }
            if (q < 0) return 1;
            int r = -1;
            for (int l : order) {
                if (how[l] == 2 && lines.get(l) > q) r = Math.max(r, lines.get(l));
            }
            if (r >= 0) {
                jumpAll(r);
                return 2;
            }
            int blocks = 0;
            r = 512;
            for (int l : order) {
                if (lines.get(l) > q) {
                    r = Math.min(r, lines.get(l));
                    continue;
                }
                List<Integer> objects = new ArrayList<>(lists.get(l).keySet());
                for (int i = 0; i < objects.size(); i++) {
                    if (objects.get(i) >= q) {
                        blocks += weight[l] * blockTop(l, i / 8);
                        r = Math.min(r, 1 + objects.get(Math.min(objects.size() - 1, i / 8 * 8 + 7)));
                        break;
                    }
                }
            }
            if (blocks <= floor) {
                told[2]++;
                jumpAll(r);
                return 2;
            }
            boolean before = false;
            for (int l : order) before |= lines.get(l) < q;
            if (before) {
                jumpAll(q);
                return 2;
            }
            told[1]++;
            if (fit(q) && behindPlace(q)) seen.add(new int[] {q, sum(q), sum(q), keys[q]});
            for (int l : order) {
                if (lines.get(l) == q) {
                    Integer next = lists.get(l).higherKey(q);
                    if (next == null) lines.remove(l);
                    else lines.put(l, next);
                }
            }
            return 2;
        }

        int walk(int work) {
            if (!in(work, 1, 10000)) return -1;
            Arrays.fill(told, 0, 7, 0);
            lines.clear();
            for (int l = 0; l < 12; l++) {
                if (asked(l) && !lists.get(l).isEmpty()) lines.put(l, lists.get(l).firstKey());
            }
            List<int[]> seen = new ArrayList<>();
            int end = 2;
            while (end == 2 && told[0] < work) {
                told[0]++;
                end = step(seen);
            }
            answers = first(seen);
            byKeys = false;
            told[4] = end;
            told[5] = floor(answers);
            told[6] = 512;
            for (int o : lines.values()) told[6] = Math.min(told[6], o);
            return answers.size();
        }

        boolean inSome(int object) {
            for (TreeMap<Integer, Integer> l : lists) {
                if (l.containsKey(object)) return true;
            }
            return false;
        }

        int keys() {
            List<int[]> seen = new ArrayList<>();
            told[7] = 0;
            told[8] = 0;
            for (int z = 0; z < 32; z++) {
                Integer most = null;
                for (int o = 16 * z; o < 16 * z + 16; o++) {
                    if (inSome(o)) most = most == null ? keys[o] : Math.max(most, keys[o]);
                }
                if (most == null) continue;
                told[7]++;
                List<int[]> held = first(seen);
                if (held.size() == n && most <= held.get(n - 1)[1]) told[8]++;
                // Those of a ZONE that is PASSED BY may be looked at as well: none of them can come in.
                for (int o = 16 * z; o < 16 * z + 16; o++) {
                    if (fit(o)) seen.add(new int[] {o, keys[o], sum(o), keys[o]});
                }
            }
            answers = first(seen);
            byKeys = true;
            return answers.size();
        }

        int anew(int m, int f) {
            if (!in(m, 0, 20) || !in(f, -9, 9)) return -1;
            if (answers == null) return -2;
            int those = Math.min(m, answers.size());
            List<int[]> part = answers.subList(0, those);
            for (int[] a : part) a[1] += f * (byKeys ? a[2] : a[3]);
            part.sort(ORDER);
            return those;
        }

        int answer(int k, int what) {
            return answers == null || !in(k, 0, answers.size() - 1) || !in(what, 0, 3) ? -1 : answers.get(k)[what];
        }

        int told(int what) {
            return in(what, 0, 8) ? told[what] : -1;
        }

        int count(int what) {
            if (in(what, 0, 11)) return lists.get(what).size();
            int[] sorts = new int[4];
            for (int h : how) sorts[h]++;
            if (what == 12) return sorts[1] + sorts[2];
            if (what == 13) return sorts[2];
            if (what == 14) return sorts[3];
            if (what == 15) return n;
            if (what == 16) return answers == null ? 0 : answers.size();
            if (what != 17) return -1;
            int some = 0;
            for (int o = 0; o < 512; o++) some += inSome(o) ? 1 : 0;
            return some;
        }
    }

    /** One run: a program and a model that get the same calls. */
    private static final class Run {
        final Random random;
        final int number;
        final BoundEnding x = new BoundEnding();
        final Model m = new Model();
        final List<String> log = new ArrayList<>();
        final int listRange;
        final int objectRange;
        final int scoreShape;
        boolean failed = false;

        Run(int number) {
            this.number = number;
            random = new Random(7919L * number + 1);
            listRange = 1 + random.nextInt(12);
            objectRange = new int[] {12, 40, 130, 300, 512}[random.nextInt(5)];
            scoreShape = random.nextInt(4);
        }

        void due(String call, int got, int want) {
            log.add(call + " = " + got);
            if (got != want && !failed) {
                failed = true;
                wrong++;
                System.out.println("run " + number + ", call " + log.size() + ": " + call + " answered " + got + ", due is " + want);
            }
        }

        boolean hasRoom(int calls) {
            return !failed && log.size() + calls <= MOST_CALLS;
        }

        /** Mostly a right argument, now and then one at or beyond an edge. */
        int near(int least, int most) {
            int r = random.nextInt(60);
            if (r == 0) return least - 1;
            if (r == 1) return most + 1;
            if (r == 2) return random.nextInt();
            if (r == 3) return least;
            if (r == 4) return most;
            return least + random.nextInt(most - least + 1);
        }

        int list() {
            return random.nextInt(60) == 0 ? near(0, 11) : random.nextInt(listRange);
        }

        int object() {
            return random.nextInt(40) == 0 ? near(0, 511) : random.nextInt(objectRange);
        }

        int score() {
            if (random.nextInt(60) == 0) return near(1, 100);
            if (scoreShape == 0) return 1 + random.nextInt(100);
            if (scoreShape == 1) return 1 + random.nextInt(4);
            if (scoreShape == 2) return random.nextInt(12) == 0 ? 60 + random.nextInt(41) : 1 + random.nextInt(6);
            return 50;
        }

        void entry() {
            int a = list(), b = object(), c = score();
            due("entry(" + a + ", " + b + ", " + c + ")", x.entry(a, b, c), m.entry(a, b, c));
        }

        void lose() {
            int a = list(), b = object();
            if (Model.in(a, 0, 11) && random.nextInt(4) > 0) {
                Integer known = m.lists.get(a).ceilingKey(b);
                b = known == null ? b : known;
            }
            due("lose(" + a + ", " + b + ")", x.lose(a, b), m.lose(a, b));
        }

        void key() {
            int a = object(), b = random.nextBoolean() ? near(-1000, 1000) : near(-3, 3);
            due("key(" + a + ", " + b + ")", x.key(a, b), m.key(a, b));
        }

        void top() {
            int a = list(), b = near(-1, 15);
            due("top(" + a + ", " + b + ")", x.top(a, b), m.top(a, b));
        }

        void ask() {
            int a = list(), r = random.nextInt(20);
            int b = r == 0 ? near(0, 3) : r < 13 ? 1 : r < 16 ? 2 : r < 18 ? 3 : 0;
            int c = random.nextBoolean() ? near(1, 9) : 1;
            due("ask(" + a + ", " + b + ", " + c + ")", x.ask(a, b, c), m.ask(a, b, c));
        }

        void wanted() {
            int a = random.nextBoolean() ? near(1, 20) : near(1, 4);
            due("wanted(" + a + ")", x.wanted(a), m.wanted(a));
        }

        void place() {
            int a = near(-1, 10800), b = object();
            int r = random.nextInt(4);
            if (r == 0) {
                a = -1;
            } else if (r < 3 && m.answers != null && !m.answers.isEmpty()) {
                int[] some = m.answers.get(random.nextInt(m.answers.size()));
                a = some[2];
                b = some[0];
            }
            due("place(" + a + ", " + b + ")", x.place(a, b), m.place(a, b));
        }

        void small() {
            int r = random.nextInt(5);
            if (r == 0) {
                int a = object();
                due("fits(" + a + ")", x.fits(a), m.fits(a));
            } else if (r == 1) {
                int a = object();
                due("sum(" + a + ")", x.sum(a), m.sum(a));
            } else if (r == 2) {
                int a = random.nextBoolean() ? near(1, 512) : near(1, 20);
                due("total(" + a + ")", x.total(a), m.total(a));
            } else if (r == 3) {
                int a = near(0, 17);
                due("count(" + a + ")", x.count(a), m.count(a));
            } else {
                int a = near(0, 8);
                due("told(" + a + ")", x.told(a), m.told(a));
            }
        }

        void walk() {
            int a = random.nextInt(3) == 0 ? near(1, 30) : near(1, 10000);
            due("walk(" + a + ")", x.walk(a), m.walk(a));
            if (Model.in(a, 1, 10000) && m.told[4] != 2 && !same(m.answers, m.bestOfAll())) {
                wrong++;
                System.out.println("run " + number + ": the model's own walk is not the best of all");
            }
            look();
        }

        static boolean same(List<int[]> a, List<int[]> b) {
            boolean same = a.size() == b.size();
            for (int i = 0; same && i < a.size(); i++) same = Arrays.equals(a.get(i), b.get(i));
            return same;
        }

        void keys() {
            due("keys()", x.keys(), m.keys());
            look();
        }

        void anew() {
            int a = near(0, 20), b = near(-9, 9);
            due("anew(" + a + ", " + b + ")", x.anew(a, b), m.anew(a, b));
            look();
        }

        /** All that is told and answered, if calls are left for it. */
        void look() {
            for (int what = 0; what < 9 && hasRoom(1); what++) {
                due("told(" + what + ")", x.told(what), m.told(what));
            }
            for (int k = 0; k < 21 && hasRoom(4) && k <= m.count(16); k++) {
                for (int what = 0; what < 4; what++) {
                    due("answer(" + k + ", " + what + ")", x.answer(k, what), m.answer(k, what));
                }
            }
        }

        void go() {
            int filling = 20 + random.nextInt(300);
            while (hasRoom(1) && log.size() < filling) {
                int r = random.nextInt(12);
                if (r == 0) key();
                else entry();
            }
            for (int i = 0; i < listRange && hasRoom(1); i++) ask();
            if (hasRoom(1)) wanted();
            while (hasRoom(1)) {
                int r = random.nextInt(24);
                if (r < 4) walk();
                else if (r < 6) keys();
                else if (r < 8) anew();
                else if (r < 10) ask();
                else if (r < 12) place();
                else if (r < 13) wanted();
                else if (r < 15) entry();
                else if (r < 16) lose();
                else if (r < 18) key();
                else if (r < 19) top();
                else small();
            }
        }
    }

    public static void main(String[] args) {
        int[] endings = new int[3];
        long skips = 0;
        long passed = 0;
        for (int number = 0; number < RUNS && wrong < 20; number++) {
            Run run = new Run(number);
            run.go();
            endings[run.m.told[4]]++;
            skips += run.m.told[2];
            passed += run.m.told[8];
        }
        if (endings[0] * endings[1] * endings[2] == 0 || skips == 0 || passed == 0) {
            wrong++;
            System.out.println("the runs do not reach all there is: " + Arrays.toString(endings) + ", SKIPS " + skips + ", PASSED BY " + passed);
        }
        System.out.println(wrong == 0 ? "all answers are as due" : wrong + " answers are not as due");
        if (wrong != 0) {
            System.exit(1);
        }
    }
}
