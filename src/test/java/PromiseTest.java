/** Each promise of the document by hand: ordinary inputs, the edges that it names, and wrong inputs. */
public final class PromiseTest {
    private static final Class<IndexOutOfBoundsException> INDEX = IndexOutOfBoundsException.class;
    private static final Class<IllegalArgumentException> ARGUMENT = IllegalArgumentException.class;
    private static final Class<IllegalStateException> STATE = IllegalStateException.class;
    private static final int LEAST = Integer.MIN_VALUE;
    private static final int GREATEST = Integer.MAX_VALUE;

    private PromiseTest() {
    }

    public static void main(String[] args) {
        newObject();
        build();
        setSlope();
        cut();
        setBound();
        depot();
        come();
        put();
        pole();
        sectionOf();
        section();
        car();
        pass();
        turning();
        current();
        going();
        pushing();
        riding();
        wearing();
        mending();
        waiting();
        count();
        next();
        needs();
        advise();
        foresee();
        mean();
        digest();
        Check.end("PromiseTest");
    }

    private static TramRibbon withPoles(int poles) {
        TramRibbon x = new TramRibbon();
        x.build(poles);
        return x;
    }

    /** Eight poles; car 0 broke at pole 2, going up, and car 1 pushes it since tick 1; it is tick 2. */
    private static TramRibbon withPusher(int wear) {
        TramRibbon x = new TramRibbon();
        x.put(1, true, 97);
        x.pass(1);
        x.put(1, true, wear);
        x.pass(1);
        return x;
    }

    private static void newObject() {
        TramRibbon x = new TramRibbon();
        int[] totals = {0, 8, 1, 0, 0, 0, 0, 0, 0, 0, 0};
        for (int what = 0; what < totals.length; what++) {
            Check.due("1: count(" + what + ")", x.count(what), totals[what]);
        }
        checkBare("1", x, 8);
    }

    private static void checkBare(String promise, TramRibbon x, int poles) {
        Check.due(promise + ": poles", x.count(1), poles);
        Check.due(promise + ": sections", x.count(2), 1);
        for (int pole = 0; pole < poles; pole++) {
            int[] facts = {0, 0, 0, -1};
            for (int what = 0; what < facts.length; what++) {
                Check.due(promise + ": pole(" + pole + ", " + what + ")", x.pole(pole, what), facts[what]);
            }
        }
        int[] facts = {0, poles - 1, 20, 0, 0, 0};
        for (int what = 0; what < facts.length; what++) {
            Check.due(promise + ": section(0, " + what + ")", x.section(0, what), facts[what]);
        }
        for (int span = 0; span < poles - 1; span++) {
            Check.due(promise + ": sectionOf(" + span + ")", x.sectionOf(span), 0);
            Check.due(promise + ": slope of " + span, x.setSlope(span, 0), 0);
        }
    }

    private static void build() {
        TramRibbon x = new TramRibbon();
        Check.due("2: build(3)", x.build(3), 8);
        checkBare("2", x, 3);
        Check.due("2: build(16)", x.build(16), 3);
        checkBare("2", x, 16);
        x.setSlope(14, 3);
        x.setSlope(0, -1);
        x.cut(14);
        x.cut(1);
        x.setBound(0, 1);
        x.setBound(2, 60);
        x.depot(0, 0);
        x.depot(15, 9);
        x.come(0, 99);
        x.come(15, 5);
        x.pass(3);
        Check.due("2: build(16) anew", x.build(16), 16);
        checkBare("2", x, 16);
        Check.due("2: the tick goes on", x.count(0), 3);
        Check.due("2: nobody waits", x.count(6), 0);
        Check.due("2: no spares", x.count(10), 0);
        int[] wrong = {2, 17, 0, -3, LEAST, GREATEST};
        for (int poles : wrong) {
            Check.refuses(x, "2: build(" + poles + ")", ARGUMENT, () -> x.build(poles));
        }
        x.put(0, true, 0);
        Check.refuses(x, "2: build(8) with a car", STATE, () -> x.build(8));
        Check.refuses(x, "2: build(2) with a car", ARGUMENT, () -> x.build(2));
        Check.refuses(x, "2: build(17) with a car", ARGUMENT, () -> x.build(17));
    }

    private static void setSlope() {
        TramRibbon x = new TramRibbon();
        Check.due("3: setSlope(0, 3)", x.setSlope(0, 3), 0);
        Check.due("3: setSlope(0, -3)", x.setSlope(0, -3), 3);
        Check.due("3: setSlope(0, 1)", x.setSlope(0, 1), -3);
        Check.due("3: setSlope(6, 2)", x.setSlope(6, 2), 0);
        Check.due("3: setSlope(5, 0)", x.setSlope(5, 0), 0);
        x.put(0, true, 0);
        Check.due("3: the slope counts", x.car(0, 6), 3);
        Check.refuses(x, "3: setSlope(7, 0)", INDEX, () -> x.setSlope(7, 0));
        Check.refuses(x, "3: setSlope(-1, 0)", INDEX, () -> x.setSlope(-1, 0));
        Check.refuses(x, "3: setSlope(7, 4)", INDEX, () -> x.setSlope(7, 4));
        Check.refuses(x, "3: setSlope(least, least)", INDEX, () -> x.setSlope(LEAST, LEAST));
        Check.refuses(x, "3: setSlope(greatest, 0)", INDEX, () -> x.setSlope(GREATEST, 0));
        Check.refuses(x, "3: setSlope(0, 4)", ARGUMENT, () -> x.setSlope(0, 4));
        Check.refuses(x, "3: setSlope(0, -4)", ARGUMENT, () -> x.setSlope(0, -4));
        Check.refuses(x, "3: setSlope(0, least)", ARGUMENT, () -> x.setSlope(0, LEAST));
        TramRibbon y = withPoles(3);
        Check.refuses(y, "3: setSlope(2, 0) of 3 poles", INDEX, () -> y.setSlope(2, 0));
    }

    private static void cut() {
        TramRibbon x = new TramRibbon();
        x.put(0, true, 0);
        x.put(0, true, 0);
        x.setBound(0, 3);
        x.pass(1);
        Check.due("4: dead ahead of the cut", x.section(0, 3), 2);
        Check.due("4: cut(4)", x.cut(4), 2);
        int[][] due = {{0, 4, 3, 2, 4, 1}, {4, 3, 3, 2, 0, 0}};
        checkSections("4: cut(4)", x, due);
        x.setBound(0, 7);
        x.setBound(1, 9);
        Check.due("4: cut(6)", x.cut(6), 3);
        Check.due("4: cut(1)", x.cut(1), 4);
        int[][] then = {{0, 1, 7, 2, 4, 1}, {1, 3, 7, 2, 0, 0}, {4, 2, 9, 2, 0, 0}, {6, 1, 9, 2, 0, 0}};
        checkSections("4: cut(1)", x, then);
        Check.due("4: insulator at 1", x.pole(1, 2), 1);
        Check.due("4: no insulator at 2", x.pole(2, 2), 0);
        Check.refuses(x, "4: cut(8)", INDEX, () -> x.cut(8));
        Check.refuses(x, "4: cut(-1)", INDEX, () -> x.cut(-1));
        Check.refuses(x, "4: cut(least)", INDEX, () -> x.cut(LEAST));
        Check.refuses(x, "4: cut(greatest)", INDEX, () -> x.cut(GREATEST));
        Check.refuses(x, "4: cut(0)", STATE, () -> x.cut(0));
        Check.refuses(x, "4: cut(7)", STATE, () -> x.cut(7));
        Check.refuses(x, "4: cut(4) again", STATE, () -> x.cut(4));
        x.setBound(3, 1);
        x.put(7, false, 0);
        x.pass(3);
        Check.due("4: section 3 became dead", x.section(3, 5), 1);
        Check.due("4: cut(2)", x.cut(2), 5);
        Check.due("4: what is behind the cut keeps its count", x.section(4, 5), 1);
        Check.due("4: so does what is ahead of it", x.section(0, 5), 1);
        TramRibbon y = withPoles(16);
        for (int pole = 14; pole >= 1; pole--) {
            Check.due("4: cut(" + pole + ") of 16", y.cut(pole), 16 - pole);
        }
        for (int span = 0; span < 15; span++) {
            Check.due("4: section of " + span, y.sectionOf(span), span);
        }
    }

    private static void checkSections(String what, TramRibbon x, int[][] due) {
        Check.due(what + ", sections", x.count(2), due.length);
        for (int s = 0; s < due.length; s++) {
            for (int fact = 0; fact < due[s].length; fact++) {
                Check.due(what + ", section(" + s + ", " + fact + ")", x.section(s, fact), due[s][fact]);
            }
        }
    }

    private static void setBound() {
        TramRibbon x = new TramRibbon();
        x.cut(3);
        Check.due("5: setBound(0, 1)", x.setBound(0, 1), 20);
        Check.due("5: setBound(1, 60)", x.setBound(1, 60), 20);
        Check.due("5: setBound(0, 2)", x.setBound(0, 2), 1);
        Check.due("5: bound of 0", x.section(0, 2), 2);
        Check.due("5: bound of 1", x.section(1, 2), 60);
        Check.refuses(x, "5: setBound(2, 1)", INDEX, () -> x.setBound(2, 1));
        Check.refuses(x, "5: setBound(-1, 1)", INDEX, () -> x.setBound(-1, 1));
        Check.refuses(x, "5: setBound(2, 0)", INDEX, () -> x.setBound(2, 0));
        Check.refuses(x, "5: setBound(greatest, least)", INDEX, () -> x.setBound(GREATEST, LEAST));
        Check.refuses(x, "5: setBound(0, 0)", ARGUMENT, () -> x.setBound(0, 0));
        Check.refuses(x, "5: setBound(0, 61)", ARGUMENT, () -> x.setBound(0, 61));
    }

    private static void depot() {
        TramRibbon x = new TramRibbon();
        Check.due("6: depot(0, 0)", x.depot(0, 0), 0);
        Check.due("6: a depot without spares", x.pole(0, 3), 0);
        Check.due("6: no depot", x.pole(1, 3), -1);
        Check.due("6: depot(7, 9)", x.depot(7, 9), 9);
        Check.due("6: depot(7, 0)", x.depot(7, 0), 9);
        Check.due("6: depot(0, 4)", x.depot(0, 4), 4);
        Check.due("6: depot(0, 5)", x.depot(0, 5), 9);
        Check.refuses(x, "6: depot(8, 0)", INDEX, () -> x.depot(8, 0));
        Check.refuses(x, "6: depot(-1, 0)", INDEX, () -> x.depot(-1, 0));
        Check.refuses(x, "6: depot(8, 10)", INDEX, () -> x.depot(8, 10));
        Check.refuses(x, "6: depot(1, 10)", ARGUMENT, () -> x.depot(1, 10));
        Check.refuses(x, "6: depot(1, -1)", ARGUMENT, () -> x.depot(1, -1));
        Check.refuses(x, "6: depot(7, 10)", ARGUMENT, () -> x.depot(7, 10));
        Check.refuses(x, "6: depot(7, greatest)", ARGUMENT, () -> x.depot(7, GREATEST));
        Check.refuses(x, "6: depot(7, 1)", STATE, () -> x.depot(7, 1));
        x.depot(3, 1);
        Check.refuses(x, "6: depot(3, 9)", STATE, () -> x.depot(3, 9));
        Check.due("6: depot(3, 8)", x.depot(3, 8), 9);
    }

    private static void come() {
        TramRibbon x = new TramRibbon();
        Check.due("7: come(0, 1)", x.come(0, 1), 1);
        Check.due("7: come(0, 97)", x.come(0, 97), 98);
        Check.due("7: come(0, 1)", x.come(0, 1), 99);
        Check.due("7: come(0, 99)", x.come(0, 99), 99);
        Check.due("7: come(7, 99)", x.come(7, 99), 99);
        Check.due("7: come(6, 50)", x.come(6, 50), 50);
        Check.due("7: come(6, 50)", x.come(6, 50), 99);
        Check.refuses(x, "7: come(8, 1)", INDEX, () -> x.come(8, 1));
        Check.refuses(x, "7: come(-1, 1)", INDEX, () -> x.come(-1, 1));
        Check.refuses(x, "7: come(8, 0)", INDEX, () -> x.come(8, 0));
        Check.refuses(x, "7: come(1, 0)", ARGUMENT, () -> x.come(1, 0));
        Check.refuses(x, "7: come(1, 100)", ARGUMENT, () -> x.come(1, 100));
        Check.refuses(x, "7: come(1, greatest)", ARGUMENT, () -> x.come(1, GREATEST));
        Check.refuses(x, "7: come(1, -1)", ARGUMENT, () -> x.come(1, -1));
    }

    private static void put() {
        TramRibbon x = new TramRibbon();
        Check.due("8: put(0, true, 99)", x.put(0, true, 99), 0);
        Check.due("8: put(0, false, 0)", x.put(0, false, 0), 1);
        int[][] due = {{0, 1, 0, 99, 0, -1, 2, 0}, {0, 0, 0, 0, 0, -1, 0, 0}};
        for (int car = 0; car < due.length; car++) {
            for (int what = 0; what < due[car].length; what++) {
                Check.due("8: car(" + car + ", " + what + ")", x.car(car, what), due[car][what]);
            }
        }
        Check.refuses(x, "8: put(0, true, 0), a third", STATE, () -> x.put(0, true, 0));
        Check.refuses(x, "8: put(0, true, 100), a third", ARGUMENT, () -> x.put(0, true, 100));
        Check.refuses(x, "8: put(8, true, 0)", INDEX, () -> x.put(8, true, 0));
        Check.refuses(x, "8: put(-1, true, 0)", INDEX, () -> x.put(-1, true, 0));
        Check.refuses(x, "8: put(8, true, 100)", INDEX, () -> x.put(8, true, 100));
        Check.refuses(x, "8: put(1, true, -1)", ARGUMENT, () -> x.put(1, true, -1));
        Check.refuses(x, "8: put(1, true, 100)", ARGUMENT, () -> x.put(1, true, 100));
        Check.refuses(x, "8: put(1, true, least)", ARGUMENT, () -> x.put(1, true, LEAST));
        for (int car = 2; car < 6; car++) {
            Check.due("8: put, the next number", x.put(car, true, 0), car);
        }
        Check.refuses(x, "8: put(7, true, 0), a seventh", STATE, () -> x.put(7, true, 0));
        Check.refuses(x, "8: put(8, true, 0), a seventh", INDEX, () -> x.put(8, true, 0));
    }

    private static void pole() {
        TramRibbon x = new TramRibbon();
        x.come(2, 7);
        x.depot(2, 3);
        x.cut(2);
        x.put(2, true, 0);
        x.put(2, false, 0);
        x.put(3, false, 0);
        int[] due = {7, 2, 1, 3};
        for (int what = 0; what < due.length; what++) {
            Check.due("9: pole(2, " + what + ")", x.pole(2, what), due[what]);
        }
        Check.due("9: pole(3, 1)", x.pole(3, 1), 1);
        Check.due("9: pole(7, 1)", x.pole(7, 1), 0);
        Check.refuses(x, "9: pole(8, 0)", INDEX, () -> x.pole(8, 0));
        Check.refuses(x, "9: pole(-1, 0)", INDEX, () -> x.pole(-1, 0));
        Check.refuses(x, "9: pole(0, 4)", INDEX, () -> x.pole(0, 4));
        Check.refuses(x, "9: pole(0, -1)", INDEX, () -> x.pole(0, -1));
        Check.refuses(x, "9: pole(greatest, least)", INDEX, () -> x.pole(GREATEST, LEAST));
    }

    private static void sectionOf() {
        TramRibbon x = new TramRibbon();
        x.cut(3);
        x.cut(1);
        int[] due = {0, 1, 1, 2, 2, 2, 2};
        for (int span = 0; span < due.length; span++) {
            Check.due("10: sectionOf(" + span + ")", x.sectionOf(span), due[span]);
        }
        Check.refuses(x, "10: sectionOf(7)", INDEX, () -> x.sectionOf(7));
        Check.refuses(x, "10: sectionOf(-1)", INDEX, () -> x.sectionOf(-1));
        Check.refuses(x, "10: sectionOf(greatest)", INDEX, () -> x.sectionOf(GREATEST));
    }

    private static void section() {
        TramRibbon x = withPoles(5);
        x.setSlope(2, 1);
        x.cut(2);
        x.setBound(1, 4);
        x.put(2, true, 0);
        x.put(4, false, 0);
        x.put(2, false, 0);
        int[][] due = {{0, 2, 20, 0, 2, 0}, {2, 2, 4, 0, 5, 0}};
        checkSections("11", x, due);
        x.pass(1);
        // The section 1 died; car 2 went from pole 2 to pole 1.
        int[][] then = {{0, 2, 20, 0, 2, 0}, {2, 2, 4, 2, 5, 1}};
        checkSections("11: a tick later", x, then);
        x.pass(2);
        Check.due("11: live again", x.section(1, 3), 0);
        x.pass(3);
        Check.due("11: dead twice", x.section(1, 5), 2);
        Check.refuses(x, "11: section(2, 0)", INDEX, () -> x.section(2, 0));
        Check.refuses(x, "11: section(-1, 0)", INDEX, () -> x.section(-1, 0));
        Check.refuses(x, "11: section(0, 6)", INDEX, () -> x.section(0, 6));
        Check.refuses(x, "11: section(0, -1)", INDEX, () -> x.section(0, -1));
    }

    private static void car() {
        TramRibbon x = withPusher(0);
        // Tick 0: one waits at each pole. Tick 1: car 1 came to pole 2, where one got on.
        int[][] due = {{2, 1, 0, 99, 1, -1, 0, 1}, {2, 1, 1, 3, 0, 0, 5, 1}};
        for (int car = 0; car < due.length; car++) {
            for (int what = 0; what < due[car].length; what++) {
                Check.due("12: car(" + car + ", " + what + ")", x.car(car, what), due[car][what]);
            }
        }
        x.setSlope(2, 3);
        Check.due("12: a pusher uphill draws", x.car(1, 6), 8);
        x.setSlope(2, -3);
        Check.due("12: a pusher downhill draws", x.car(1, 6), 5);
        x.put(3, false, 0);
        Check.due("12: going down, it rises by 3", x.car(2, 6), 5);
        x.put(7, true, 0);
        Check.due("12: no span ahead", x.car(3, 6), 0);
        x.put(0, false, 0);
        Check.due("12: no span ahead, going down", x.car(4, 6), 0);
        Check.refuses(x, "12: car(5, 0)", INDEX, () -> x.car(5, 0));
        Check.refuses(x, "12: car(-1, 0)", INDEX, () -> x.car(-1, 0));
        Check.refuses(x, "12: car(0, 8)", INDEX, () -> x.car(0, 8));
        Check.refuses(x, "12: car(0, -1)", INDEX, () -> x.car(0, -1));
        TramRibbon y = new TramRibbon();
        Check.refuses(y, "12: car(0, 0) without cars", INDEX, () -> y.car(0, 0));
        y.come(1, 29);
        y.put(0, true, 0);
        y.pass(1);
        Check.due("12: 29 riders", y.car(0, 2), 29);
        Check.due("12: 29 riders draw 2", y.car(0, 6), 4);
        int[][] draws = {{9, 2}, {10, 3}, {30, 5}};
        for (int[] d : draws) {
            TramRibbon z = new TramRibbon();
            z.come(1, d[0]);
            z.put(0, true, 0);
            z.pass(1);
            Check.due("12: what " + d[0] + " riders draw", z.car(0, 6), d[1]);
        }
    }

    private static void pass() {
        TramRibbon x = withPoles(3);
        x.put(0, true, 0);
        Check.due("13: pass(1), nobody waits yet", x.pass(1), 0);
        Check.due("13: pass(1), one gets on at pole 2", x.pass(1), 1);
        Check.due("13: pass(1), one gets on at pole 1", x.pass(1), 1);
        Check.due("13: place", x.car(0, 0), 1);
        Check.due("13: riders", x.car(0, 2), 2);
        Check.due("13: got on in all", x.count(8), 2);
        TramRibbon y = withPoles(3);
        y.put(0, true, 0);
        Check.due("13: pass(3)", y.pass(3), 2);
        Check.due("13: three at once or one by one", y.digest(), x.digest());
        Check.due("13: pass(200) without cars", new TramRibbon().pass(200), 0);
        int[] wrong = {0, 201, -1, LEAST, GREATEST};
        for (int ticks : wrong) {
            Check.refuses(x, "13: pass(" + ticks + ")", ARGUMENT, () -> x.pass(ticks));
        }
    }

    private static void turning() {
        TramRibbon x = withPoles(3);
        x.put(2, true, 0);
        x.put(0, false, 0);
        x.pass(1);
        Check.due("step 1: from the last pole down", x.car(0, 0) * 10 + x.car(0, 1), 10);
        Check.due("step 1: from the first pole up", x.car(1, 0) * 10 + x.car(1, 1), 11);
        TramRibbon y = withPoles(3);
        y.put(1, true, 97);
        y.pass(2);
        Check.due("step 1: a broken car does not turn", y.car(0, 1), 1);
        y.put(1, true, 0);
        y.pass(2);
        // Car 1 came to pole 2 in tick 2, pushes, turns in tick 3, and goes in tick 4.
        Check.due("step 1: the pusher turns", y.car(1, 1), 0);
        Check.due("step 1: and with it the car that it pushes", y.car(0, 1), 0);
        Check.due("step 1: not yet gone", y.car(0, 0), 2);
        y.pass(1);
        Check.due("step 3: gone down", y.car(0, 0), 1);
        Check.due("step 3: the pusher too", y.car(1, 0), 1);
    }

    private static void current() {
        TramRibbon x = withPoles(5);
        x.put(0, true, 0);
        x.setBound(0, 2);
        x.pass(1);
        Check.due("step 2: as much as the bound is borne", x.car(0, 0), 1);
        x.setBound(0, 1);
        x.pass(1);
        Check.due("step 2: more is not", x.car(0, 0), 1);
        Check.due("step 2: dead for 3 ticks, one of them gone", x.section(0, 3), 2);
        x.setBound(0, 60);
        x.pass(2);
        Check.due("step 2: dead for 3 ticks, all gone", x.section(0, 3), 0);
        Check.due("step 2: the car stood still", x.car(0, 0), 1);
        x.pass(1);
        Check.due("step 2: the car goes on", x.car(0, 0), 2);
        Check.due("step 2: it became dead once", x.section(0, 5), 1);
        TramRibbon y = withPoles(5);
        y.cut(2);
        y.setBound(0, 3);
        y.setBound(1, 3);
        y.put(0, true, 0);
        y.put(2, true, 0);
        y.put(4, false, 0);
        y.pass(1);
        Check.due("step 2: section 0 is live", y.section(0, 3), 0);
        Check.due("step 2: section 1 is dead", y.section(1, 3), 2);
        Check.due("step 2: car 0 went", y.car(0, 0), 1);
        Check.due("step 2: car 1 stood", y.car(1, 0), 2);
        Check.due("step 2: car 2 stood", y.car(2, 0), 4);
        y.pass(2);
        Check.due("step 2: it cannot die while it is dead", y.section(1, 5), 1);
        y.pass(1);
        Check.due("step 2: it dies anew", y.section(1, 5), 2);
    }

    private static void going() {
        TramRibbon x = withPoles(5);
        x.put(1, true, 0);
        x.put(2, true, 0);
        x.put(2, true, 0);
        x.pass(1);
        Check.due("step 3: two cars are in the way", x.car(0, 0), 1);
        Check.due("step 3: and go later", x.car(1, 0) * 10 + x.car(2, 0), 33);
        Check.due("step 3: it came nowhere", x.car(0, 7), 0);
        TramRibbon v = withPoles(5);
        v.come(2, 9);
        v.put(1, true, 0);
        v.pass(1);
        v.setBound(0, 1);
        v.pass(1);
        Check.due("step 4: who stood keeps its riders", v.car(0, 2), 9);
        Check.due("step 4: and does not wear", v.car(0, 3), 3);
        Check.due("step 4: and takes nobody", v.pole(2, 0), 1);
        Check.foretells(v, "15: who stands does not come", -1, () -> v.next(2));
        TramRibbon y = withPoles(5);
        y.put(2, true, 0);
        y.put(2, true, 0);
        y.put(1, true, 0);
        y.pass(1);
        Check.due("step 3: both went first", y.car(2, 0), 2);
        TramRibbon z = withPoles(5);
        z.put(2, true, 0);
        z.put(1, true, 0);
        z.put(3, false, 0);
        z.pass(1);
        Check.due("step 3: one car is not in the way", z.car(1, 0) * 10 + z.car(2, 0), 22);
    }

    private static void pushing() {
        TramRibbon x = withPusher(0);
        x.pass(1);
        Check.due("step 3: the pusher goes in tick 2", x.car(1, 0), 3);
        Check.due("step 3: the broken car too", x.car(0, 0), 3);
        Check.due("step 3: it came to two poles", x.car(0, 7), 2);
        Check.due("step 4: it wears no more", x.car(0, 3), 99);
        Check.due("step 4: it takes nobody", x.car(0, 2), 0);
        Check.due("step 4: its pusher wears", x.car(1, 3), 6);
        x.pass(1);
        Check.due("step 3: not in tick 3", x.car(1, 0), 3);
        x.put(5, true, 97);
        x.put(5, true, 0);
        x.pass(1);
        Check.due("step 3: again in tick 4", x.car(1, 0), 4);
        // Car 2 broke at pole 6, car 3 pushes it, and both stand there for an odd tick.
        Check.due("step 5: another pusher", x.car(3, 5), 2);
        x.pass(1);
        x.cut(6);
        x.setBound(1, 1);
        x.pass(1);
        Check.due("step 3: on to pole 5", x.car(1, 0), 5);
        Check.due("step 3: a dead section stops a pusher", x.car(3, 0), 6);
        x.pass(2);
        Check.due("step 3: a pusher goes to an empty pole alone", x.car(1, 0), 5);
        TramRibbon y = withPusher(0);
        y.put(4, true, 97);
        y.put(3, true, 0);
        y.pass(1);
        // Car 3 went from pole 3 to pole 4 behind car 1 in its turn; car 2 broke at pole 5.
        Check.due("step 3: one car is in a pusher's way", y.car(1, 0), 2);
        Check.due("step 3: that car has gone since", y.car(3, 0), 4);
    }

    private static void riding() {
        TramRibbon x = withPoles(5);
        x.come(1, 5);
        x.put(0, true, 0);
        Check.due("step 4: all five get on", x.pass(1), 5);
        Check.due("step 4: at the next pole one gets on", x.pass(1), 1);
        Check.due("step 4: two of five got off", x.car(0, 2), 4);
        Check.due("step 4: nobody waits there", x.pole(2, 0), 0);
        TramRibbon y = withPoles(5);
        y.come(1, 99);
        y.put(0, true, 0);
        Check.due("step 4: at most 30 ride", y.pass(1), 30);
        Check.due("step 4: 69 stay, one more comes", y.pole(1, 0), 70);
        Check.due("step 4: 30 riders", y.count(7), 30);
        TramRibbon z = withPoles(5);
        z.come(1, 40);
        z.put(0, true, 0);
        z.put(0, true, 0);
        z.pass(1);
        Check.due("step 4: by numbers", z.car(0, 2) * 100 + z.car(1, 2), 3010);
    }

    private static void wearing() {
        int[][] due = {{20, 0, 3, 0}, {21, 0, 5, 0}, {0, 96, 99, 0}, {0, 97, 99, 1}, {20, 96, 99, 0}, {21, 94, 99, 0}, {21, 95, 99, 1}};
        for (int[] d : due) {
            TramRibbon x = withPoles(3);
            if (d[0] > 0) {
                x.come(1, d[0]);
            }
            x.put(0, true, d[1]);
            Check.due("step 4: all get on", x.pass(1), d[0]);
            String what = "step 4: " + d[0] + " riders, wear " + d[1];
            Check.due(what + ", then", x.car(0, 3), d[2]);
            Check.due(what + ", broken", x.car(0, 4), d[3]);
            Check.due(what + ", riders", x.car(0, 2), d[3] == 1 ? 0 : d[0]);
            Check.due(what + ", waiting", x.pole(1, 0), d[3] == 1 ? d[0] + 1 : 1);
        }
        TramRibbon y = withPoles(5);
        y.come(1, 99);
        y.come(2, 99);
        y.put(0, true, 90);
        y.pass(1);
        Check.due("step 4: half of them change", y.pass(1), 15);
        Check.due("step 4: it is broken", y.car(0, 4), 1);
        Check.due("step 4: 84 and 30 are at most 99", y.pole(2, 0), 99);
        TramRibbon z = withPoles(5);
        z.put(1, true, 99);
        z.setBound(0, 1);
        z.pass(1);
        Check.due("step 4: who stands does not wear", z.car(0, 4), 0);
        TramRibbon v = withPusher(94);
        Check.due("step 4: the pusher's wear", v.car(1, 3), 97);
        v.pass(1);
        Check.due("step 4: a pusher breaks", v.car(1, 4), 1);
        Check.due("step 4: and pushes nothing", v.car(1, 5), -1);
        Check.due("step 4: both are broken", v.count(5), 2);
        TramRibbon w = withPoles(3);
        w.come(1, 25);
        w.put(0, true, 95);
        w.put(0, true, 0);
        Check.due("step 4: who got off gets on again", w.pass(1), 50);
        Check.due("step 4: into the next car", w.car(1, 2), 25);
    }

    private static void mending() {
        TramRibbon x = withPoles(3);
        x.depot(1, 1);
        x.put(0, true, 97);
        x.put(0, true, 97);
        x.pass(1);
        Check.due("step 5: car 0 is swapped", x.car(0, 4) * 100 + x.car(0, 3), 0);
        Check.due("step 5: the spare is used", x.pole(1, 3), 0);
        Check.due("step 5: one swap", x.count(9), 1);
        Check.due("step 5: car 1 stays broken", x.car(1, 4), 1);
        Check.due("step 5: car 0 pushes it", x.car(0, 5), 1);
        x.setBound(0, 1);
        x.pass(1);
        Check.due("step 5: it goes on pushing it", x.car(0, 5), 1);
        x.depot(1, 1);
        x.pass(1);
        Check.due("step 5: car 1 is swapped later", x.car(1, 4), 0);
        Check.due("step 5: car 0 pushes it no more", x.car(0, 5), -1);
        TramRibbon u = withPoles(3);
        u.put(0, true, 97);
        u.put(0, false, 0);
        u.put(2, true, 97);
        u.pass(1);
        // Cars 0 and 2 broke at pole 1, the one going up, the other down; car 1 could not go there.
        Check.due("step 5: a broken car pushes nothing", u.car(0, 5) * 10 + u.car(2, 5), -11);
        TramRibbon y = new TramRibbon();
        y.put(0, true, 97);
        y.pass(1);
        y.put(2, false, 0);
        y.pass(1);
        Check.due("step 5: the other way it does not push", y.car(1, 0) * 10 + y.car(1, 5), 9);
        TramRibbon z = withPusher(0);
        z.depot(3, 2);
        z.pass(1);
        Check.due("step 5: pushed to a depot it is swapped", z.car(0, 4) * 100 + z.car(0, 3), 0);
        Check.due("step 5: nobody pushes it", z.car(1, 5), -1);
        Check.due("step 5: one spare is left", z.count(10), 1);
        z.pass(1);
        Check.due("step 5: it runs on", z.car(0, 0), 4);
        TramRibbon v = withPoles(3);
        v.depot(1, 0);
        v.put(0, true, 97);
        v.pass(1);
        Check.due("step 5: a depot without a spare does not help", v.car(0, 4), 1);
        v.depot(1, 1);
        Check.due("step 5: not before the tick", v.car(0, 4), 1);
        v.pass(1);
        Check.due("step 5: in the next tick it does", v.car(0, 4), 0);
    }

    private static void waiting() {
        TramRibbon x = new TramRibbon();
        x.come(7, 99);
        x.pass(7);
        // The ticks 0 to 6; at the pole k those that can be divided by k + 2.
        int[] due = {4, 3, 2, 2, 2, 1, 1, 99};
        for (int pole = 0; pole < due.length; pole++) {
            Check.due("step 6: who waits at " + pole, x.pole(pole, 0), due[pole]);
        }
        Check.due("step 6: the tick", x.count(0), 7);
        x.pass(200);
        Check.due("step 6: at most 99", x.pole(0, 0), 99);
    }

    private static void count() {
        TramRibbon x = withPoles(5);
        x.cut(2);
        x.depot(0, 2);
        x.depot(4, 3);
        x.depot(3, 0);
        x.come(1, 4);
        x.setBound(1, 1);
        x.put(1, true, 97);
        x.put(0, true, 0);
        x.put(3, true, 0);
        x.put(1, false, 97);
        x.pass(1);
        // Car 0 broke at pole 2; car 1 took four at pole 1; car 2 stood; car 3 was swapped at pole 0.
        int[] due = {1, 5, 2, 1, 4, 1, 5, 4, 4, 1, 4};
        for (int what = 0; what < due.length; what++) {
            Check.due("14: count(" + what + ")", x.count(what), due[what]);
        }
        Check.refuses(x, "14: count(11)", INDEX, () -> x.count(11));
        Check.refuses(x, "14: count(-1)", INDEX, () -> x.count(-1));
        Check.refuses(x, "14: count(greatest)", INDEX, () -> x.count(GREATEST));
    }

    private static void next() {
        TramRibbon x = new TramRibbon();
        Check.foretells(x, "15: without cars", -1, () -> x.next(0));
        x.put(3, true, 0);
        int[] due = {11, 10, 9, 8, 1, 2, 3, 4};
        for (int pole = 0; pole < due.length; pole++) {
            int at = pole;
            Check.foretells(x, "15: next(" + at + ")", due[at], () -> x.next(at));
        }
        Check.refuses(x, "15: next(8)", INDEX, () -> x.next(8));
        Check.refuses(x, "15: next(-1)", INDEX, () -> x.next(-1));
        Check.refuses(x, "15: next(greatest)", INDEX, () -> x.next(GREATEST));
        TramRibbon y = new TramRibbon();
        y.put(3, true, 97);
        Check.foretells(y, "15: it comes, and breaks there", 1, () -> y.next(4));
        Check.foretells(y, "15: it comes no further", -1, () -> y.next(5));
        TramRibbon z = withPusher(0);
        Check.foretells(z, "15: a pusher comes too", 1, () -> z.next(3));
        Check.foretells(z, "15: at half the speed", 3, () -> z.next(4));
    }

    private static void needs() {
        TramRibbon x = new TramRibbon();
        x.cut(4);
        x.setSlope(2, 3);
        x.put(0, true, 0);
        Check.foretells(x, "16: needs(0, 1)", 2, () -> x.needs(0, 1));
        Check.foretells(x, "16: needs(0, 2)", 2, () -> x.needs(0, 2));
        Check.foretells(x, "16: needs(0, 3)", 5, () -> x.needs(0, 3));
        Check.foretells(x, "16: needs(1, 4)", 0, () -> x.needs(1, 4));
        Check.foretells(x, "16: needs(1, 5)", 2, () -> x.needs(1, 5));
        x.setBound(0, 1);
        Check.foretells(x, "16: needs(0, 100), always dead", 2, () -> x.needs(0, 100));
        x.pass(1);
        Check.foretells(x, "16: needs(0, 1), dead now", 2, () -> x.needs(0, 1));
        Check.refuses(x, "16: needs(2, 1)", INDEX, () -> x.needs(2, 1));
        Check.refuses(x, "16: needs(-1, 1)", INDEX, () -> x.needs(-1, 1));
        Check.refuses(x, "16: needs(2, 0)", INDEX, () -> x.needs(2, 0));
        Check.refuses(x, "16: needs(0, 0)", ARGUMENT, () -> x.needs(0, 0));
        Check.refuses(x, "16: needs(0, 101)", ARGUMENT, () -> x.needs(0, 101));
        Check.refuses(x, "16: needs(0, least)", ARGUMENT, () -> x.needs(0, LEAST));
        TramRibbon y = withPoles(3);
        y.setSlope(1, -2);
        y.put(2, true, 0);
        Check.due("16: nothing is drawn now", y.section(0, 4), 0);
        TramRibbon z = new TramRibbon();
        z.cut(3);
        z.setBound(1, 1);
        z.put(3, true, 0);
        z.setSlope(4, 3);
        Check.foretells(z, "16: section 1 dies, and its car stays", 2, () -> z.needs(1, 50));
        Check.foretells(z, "15: and comes nowhere", -1, () -> z.next(4));
        Check.foretells(y, "16: it looks behind the turning", 4, () -> y.needs(0, 1));
    }

    private static void advise() {
        TramRibbon x = withPoles(6);
        x.setBound(0, 3);
        x.come(2, 20);
        x.put(1, true, 0);
        x.put(4, true, 0);
        // Both draw 4 from the section, which is dead: nobody gets on, unless an insulator parts them.
        // With one at pole 1 both draw from one section still; at 2 to 4 either has its own.
        Check.foretells(x, "17: the smallest of several", 2, () -> x.advise(1));
        x.cut(2);
        Check.foretells(x, "17: nothing is better than the one that is there", -1, () -> x.advise(1));
        TramRibbon y = withPoles(6);
        y.setBound(0, 3);
        y.come(5, 20);
        y.put(1, true, 0);
        y.put(4, true, 0);
        Check.foretells(y, "17: car 1 alone gets 20 people", 2, () -> y.advise(1));
        y.cut(3);
        Check.foretells(y, "17: no more by any", -1, () -> y.advise(1));
        Check.foretells(new TramRibbon(), "17: without cars", -1, () -> new TramRibbon().advise(100));
        TramRibbon z = withPoles(8);
        z.setBound(0, 3);
        z.come(3, 10);
        z.come(4, 10);
        z.put(2, true, 0);
        z.put(5, true, 0);
        z.put(7, false, 0);
        // Car 0 is free from the cut at 3 on, and for two ticks from the cut at 4 on: 10, then 10 more.
        Check.foretells(z, "17: for a tick", 3, () -> z.advise(1));
        Check.foretells(z, "17: for two ticks", 4, () -> z.advise(2));
        int[] wrong = {0, 101, -1, LEAST, GREATEST};
        for (int ticks : wrong) {
            Check.refuses(x, "17: advise(" + ticks + ")", ARGUMENT, () -> x.advise(ticks));
        }
    }

    private static void foresee() {
        TramRibbon x = withPoles(5);
        x.come(1, 5);
        x.put(0, true, 94);
        Check.foretells(x, "18: foresee(1, 0)", 5, () -> x.foresee(1, 0));
        Check.foretells(x, "18: foresee(1, 1)", 5, () -> x.foresee(1, 1));
        Check.foretells(x, "18: foresee(1, 2)", 0, () -> x.foresee(1, 2));
        // Two get off at pole 2, one gets on, the car breaks, and its four wait there.
        Check.foretells(x, "18: foresee(2, 0)", 6, () -> x.foresee(2, 0));
        Check.foretells(x, "18: foresee(2, 1)", 8, () -> x.foresee(2, 1));
        Check.foretells(x, "18: foresee(2, 2)", 1, () -> x.foresee(2, 2));
        Check.foretells(x, "18: foresee(150, 2)", 1, () -> x.foresee(150, 2));
        x.pass(1);
        Check.foretells(x, "18: those alone who get on in them", 1, () -> x.foresee(1, 0));
        TramRibbon y = withPoles(5);
        y.depot(2, 1);
        y.put(1, true, 97);
        Check.foretells(y, "18: a spare will be there", 0, () -> y.foresee(1, 2));
        Check.foretells(y, "18: and used once alone", 1, () -> y.foresee(150, 2));
        Check.refuses(x, "18: foresee(0, 0)", ARGUMENT, () -> x.foresee(0, 0));
        Check.refuses(x, "18: foresee(151, 0)", ARGUMENT, () -> x.foresee(151, 0));
        Check.refuses(x, "18: foresee(0, 3)", ARGUMENT, () -> x.foresee(0, 3));
        Check.refuses(x, "18: foresee(1, 3)", INDEX, () -> x.foresee(1, 3));
        Check.refuses(x, "18: foresee(1, -1)", INDEX, () -> x.foresee(1, -1));
        Check.refuses(x, "18: foresee(least, least)", ARGUMENT, () -> x.foresee(LEAST, LEAST));
    }

    private static void mean() {
        TramRibbon x = new TramRibbon();
        Check.dueDouble("19: nobody waits", x.mean(), 0.0);
        x.come(0, 7);
        x.come(7, 2);
        Check.dueDouble("19: nine at 8 poles", x.mean(), 1.125);
        x.build(3);
        x.come(1, 10);
        Check.dueDouble("19: ten at 3 poles", x.mean(), 10.0 / 3.0);
    }

    private static void digest() {
        TramRibbon x = withPoles(3);
        long[] bare = {0, 3, 1, 0, 0, 0, 0, 0, 0, 0, 0, 0, 0, 0, -1, 0, 0, 0, -1, 0, 0, 0, -1, 0, 0, 0, 0, 0, 2, 20, 0, 0, 0};
        Check.due("20: three bare poles", x.digest(), checksum(bare));
        x.setSlope(0, -2);
        x.setSlope(1, 1);
        x.cut(1);
        x.setBound(0, 1);
        x.depot(2, 4);
        x.put(0, true, 0);
        x.put(0, false, 5);
        x.pass(1);
        // Section 0 died of 4; car 1 has turned; one waits at each pole.
        long[] full = {
            1, 3, 2, 1, 2, 0, 3, 0, 0, 0, 4,
            1, 2, 0, -1, 1, 0, 1, -1, 1, 0, 0, 4,
            -2, 0, 1, 1,
            0, 1, 1, 2, 4, 1, 1, 1, 20, 0, 0, 0,
            0, 1, 0, 0, 0, -1, 2, 0, 0, 1, 0, 5, 0, -1, 2, 0};
        Check.due("20: a line with all there is", x.digest(), checksum(full));
    }

    private static long checksum(long[] numbers) {
        long d = 809;
        for (long x : numbers) {
            d = d * 31 + x;
        }
        return d;
    }
}
