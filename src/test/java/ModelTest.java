import java.util.Random;

/** Runs of calls drawn from fixed seeds: TramRibbon must answer each as the Model does. */
public final class ModelTest {
    private static final int RUNS = 2000;
    /** With a digest behind each call these are 510: an object is used for at most 512. */
    private static final int CALLS = 255;
    private static final int[] ODD = {Integer.MIN_VALUE, -1000, -4, -1, 0, 1, 3, 4, 9, 10, 15, 16, 17, 60, 61, 99, 100, 150, 151, 200, 201, Integer.MAX_VALUE};
    private static final String[] NAMES = {"build", "setSlope", "cut", "setBound", "depot", "come", "put", "pole",
        "sectionOf", "section", "car", "pass", "count", "next", "needs", "advise", "foresee", "mean", "digest"};

    private ModelTest() {
    }

    public static void main(String[] args) {
        int broken = 0;
        int dead = 0;
        int swapped = 0;
        int pushing = 0;
        int advised = 0;
        for (int seed = 1; seed <= RUNS; seed++) {
            TramRibbon x = new TramRibbon();
            Model m = new Model();
            Random r = new Random(seed);
            int odds = seed % 3 == 0 ? 6 : 60;
            int calm = 1 + r.nextInt(12);
            for (int n = 0; n < CALLS; n++) {
                int call = pick(r, n, calm);
                int a = number(r, call, 0, m, odds);
                int b = number(r, call, 1, m, odds);
                int c = number(r, call, 2, m, odds);
                String got = answer(x, call, a, b, c);
                String want = due(m, call, a, b, c);
                if (!got.equals(want)) {
                    Check.fault("seed " + seed + ", call " + n + ": " + NAMES[call] + "(" + a + ", " + b + ", " + c
                        + ") answered " + got + ", due is " + want);
                    break;
                }
                if (x.digest() != m.digest()) {
                    Check.fault("seed " + seed + ", behind call " + n + ": " + NAMES[call] + "(" + a + ", " + b + ", " + c + ") another state");
                    break;
                }
                advised += call == 15 && !got.equals("-1") && !got.startsWith("throws") ? 1 : 0;
                for (int k = 0; k < m.count(4); k++) {
                    pushing += m.car(k, 5) >= 0 ? 1 : 0;
                }
            }
            broken += m.count(5);
            swapped += m.count(9);
            for (int s = 0; s < m.count(2); s++) {
                dead += m.section(s, 5);
            }
        }
        // Runs in which nothing ever happens would compare nothing.
        Check.due("cars broke, were pushed and swapped, sections died, an insulator was advised",
            (broken > 100 && pushing > 100 && swapped > 100 && dead > 100 && advised > 100) ? 1 : 0, 1);
        Check.end("ModelTest");
    }

    private static int pick(Random r, int n, int calm) {
        if (n < 40) {
            int[] first = {0, 1, 1, 2, 3, 4, 5, 5, 6, 6, 17};
            return first[n < 2 ? r.nextInt(2) : 1 + r.nextInt(first.length - 1)];
        }
        if (r.nextInt(calm) == 0) {
            return 11;
        }
        return r.nextInt(NAMES.length);
    }

    private static int number(Random r, int call, int place, Model m, int odds) {
        if (r.nextInt(odds) == 0) {
            return ODD[r.nextInt(ODD.length)];
        }
        int poles = m.count(1);
        int[][] most = {
            {17, 0, 0}, {poles, 0, 0}, {poles, 0, 0}, {m.count(2), 30, 0}, {poles, 3, 0}, {poles, 99, 0}, {poles, 2, 100},
            {poles, 4, 0}, {poles, 0, 0}, {m.count(2), 6, 0}, {m.count(4) + 1, 8, 0}, {0, 0, 0}, {11, 0, 0},
            {poles, 0, 0}, {m.count(2), 100, 0}, {100, 0, 0}, {150, 3, 0}, {0, 0, 0}, {0, 0, 0}};
        if (call == 11) {
            return r.nextInt(10) == 0 ? 1 + r.nextInt(200) : 1 + r.nextInt(5);
        }
        if (call == 1 && place == 1) {
            return r.nextInt(7) - 3;
        }
        if (call == 6 && place == 2 && r.nextBoolean()) {
            return 80 + r.nextInt(20);
        }
        int bound = most[call][place];
        return bound == 0 ? 0 : r.nextInt(bound);
    }

    private static String answer(TramRibbon x, int call, int a, int b, int c) {
        try {
            switch (call) {
                case 0: return "" + x.build(a);
                case 1: return "" + x.setSlope(a, b);
                case 2: return "" + x.cut(a);
                case 3: return "" + x.setBound(a, b);
                case 4: return "" + x.depot(a, b);
                case 5: return "" + x.come(a, b);
                case 6: return "" + x.put(a, b == 1, c);
                case 7: return "" + x.pole(a, b);
                case 8: return "" + x.sectionOf(a);
                case 9: return "" + x.section(a, b);
                case 10: return "" + x.car(a, b);
                case 11: return "" + x.pass(a);
                case 12: return "" + x.count(a);
                case 13: return "" + x.next(a);
                case 14: return "" + x.needs(a, b);
                case 15: return "" + x.advise(a);
                case 16: return "" + x.foresee(a, b);
                case 17: return "" + x.mean();
                default: return "" + x.digest();
            }
        } catch (RuntimeException e) {
            return "throws " + e.getClass().getName();
        }
    }

    private static String due(Model m, int call, int a, int b, int c) {
        try {
            switch (call) {
                case 0: return "" + m.build(a);
                case 1: return "" + m.setSlope(a, b);
                case 2: return "" + m.cut(a);
                case 3: return "" + m.setBound(a, b);
                case 4: return "" + m.depot(a, b);
                case 5: return "" + m.come(a, b);
                case 6: return "" + m.put(a, b == 1, c);
                case 7: return "" + m.pole(a, b);
                case 8: return "" + m.sectionOf(a);
                case 9: return "" + m.section(a, b);
                case 10: return "" + m.car(a, b);
                case 11: return "" + m.pass(a);
                case 12: return "" + m.count(a);
                case 13: return "" + m.next(a);
                case 14: return "" + m.needs(a, b);
                case 15: return "" + m.advise(a);
                case 16: return "" + m.foresee(a, b);
                case 17: return "" + m.mean();
                default: return "" + m.digest();
            }
        } catch (RuntimeException e) {
            return "throws " + e.getClass().getName();
        }
    }
}
