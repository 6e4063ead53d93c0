/**
 * The sentences of "Terms" that name a boundary, each with a test of its own, at the boundary and
 * just beside it. The name of a test is the sentence.
 */
public final class TermsTest {
    private static final Class<IndexOutOfBoundsException> INDEX = IndexOutOfBoundsException.class;
    private static final Class<IllegalArgumentException> ARGUMENT = IllegalArgumentException.class;
    private static final Class<IllegalStateException> STATE = IllegalStateException.class;

    private TermsTest() {
    }

    public static void main(String[] args) {
        theLine();
        theCars();
        turningAndCurrent();
        going();
        atThePoles();
        mending();
        theEndOfATick();
        Check.end("TermsTest");
    }

    private static void theLine() {
        Check.test("/ is cut towards 0", TermsTest::cutTowardsZero);
        Check.test("Time is told in ticks, from 0", TermsTest::ticksFromZero);
        Check.test("It has 3 to 16 poles (8, at first), numbered from 0", TermsTest::threeToSixteenPoles);
        Check.test("8, at first", TermsTest::eightAtFirst);
        Check.test("between the poles k and k + 1 is the span k", TermsTest::spansBetweenPoles);
        Check.test("a slope, -3 to 3", TermsTest::slopes);
        Check.test("0, at first", TermsTest::slopeZeroAtFirst);
        Check.test("greater than 0: up towards the greater number", TermsTest::upTowardsTheGreater);
        Check.test("At a pole but the first and the last one there can be an insulator", TermsTest::insulators);
        Check.test("A section is as many spans as there are between two insulators (or ends)", TermsTest::sectionsBetween);
        Check.test("numbered from 0 on, with the spans", TermsTest::sectionsNumbered);
        Check.test("Each section has a bound, 1 to 60", TermsTest::bounds);
        Check.test("20, at first, for each new one; see cut()", TermsTest::boundTwentyAtFirst);
        Check.test("At some poles there is a depot with 0 or more spares", TermsTest::depots);
        Check.test("people wait at poles, up to 99 at each", TermsTest::upTo99Wait);
    }

    private static void theCars() {
        Check.test("There are at most 6", TermsTest::sixCars);
        Check.test("numbered from 0 in the order of their putting on", TermsTest::carsInOrder);
        Check.test("has riders, 0 to 30", TermsTest::ridersToThirty);
        Check.test("and wear, 0 to 99", TermsTest::wearTo99);
        Check.test("At each pole are at most 2 cars", TermsTest::twoAtAPole);
        Check.test("at the last pole of its direction there is none", TermsTest::noSpanAhead);
        Check.test("A car that runs draws 2", TermsTest::drawsTwo);
        Check.test("and riders / 10", TermsTest::drawsForRiders);
        Check.test("by how much the span ahead rises for it, but at least 0", TermsTest::drawsForTheSlope);
        Check.test("and 3, if it pushes, all added", TermsTest::drawsForPushing);
        Check.test("from the section of the span ahead", TermsTest::drawsFromTheSectionAhead);
        Check.test("without a span ahead, or broken, it draws nothing", TermsTest::drawsNothing);
    }

    private static void turningAndCurrent() {
        Check.test("1. at the last pole of its direction, goes the other way", TermsTest::turnsAtTheEnds);
        Check.test("1. not a pole ahead of it, nor at the other end", TermsTest::turnsNowhereElse);
        Check.test("1. each car that runs: a broken one does not turn", TermsTest::brokenDoesNotTurn);
        Check.test("1. it turns also where the section is dead", TermsTest::turnsWithoutCurrent);
        Check.test("1. and with it the one that it pushes, at the last pole", TermsTest::pushedTurnsAbove);
        Check.test("1. and with it the one that it pushes, at the first pole", TermsTest::pushedTurnsBelow);
        Check.test("2. this is more than its bound", TermsTest::moreThanItsBound);
        Check.test("2. all that cars draw from a section is added", TermsTest::allIsAdded);
        Check.test("2. ahead of going, behind turning", TermsTest::currentBehindTurning);
        Check.test("2. it is dead for 3 ticks from now on", TermsTest::deadForThreeTicks);
        Check.test("2. if it is live", TermsTest::onlyALiveOneDies);
    }

    private static void going() {
        Check.test("3. if the section of the span ahead is live", TermsTest::liveAhead);
        Check.test("3. fewer than 2 cars are there", TermsTest::fewerThanTwo);
        Check.test("3. by numbers", TermsTest::goingByNumbers);
        Check.test("3. One that pushes goes only in ticks that can be divided by 2", TermsTest::pusherInEvenTicks);
        Check.test("3. if the section is live, one that pushes", TermsTest::pusherNeedsCurrent);
        Check.test("3. and no car is there", TermsTest::pusherNeedsAnEmptyPole);
        Check.test("3. no car is there any more, by numbers", TermsTest::pusherByNumbers);
        Check.test("3. it takes the broken one along", TermsTest::takesTheBrokenAlong);
    }

    private static void atThePoles() {
        Check.test("4. Each car that went in step 3", TermsTest::whoStands);
        Check.test("4. also one that pushes, but not one that is pushed", TermsTest::pusherAndPushed);
        Check.test("4. riders / 2 get off", TermsTest::halfGetOff);
        Check.test("4. then as many get on as wait there: nobody", TermsTest::nobodyWaits);
        Check.test("4. but at most 30 ride, of an empty car", TermsTest::thirtyIntoAnEmptyCar);
        Check.test("4. but at most 30 ride, of a car with riders", TermsTest::thirtyIntoAFullCar);
        Check.test("4. by numbers", TermsTest::boardingByNumbers);
        Check.test("4. Its wear is 3 more, and 2 more, if more than 20 ride then", TermsTest::wearOfRiders);
        Check.test("4. with 100 or more it is broken, with a wear of 99", TermsTest::brokenAtAHundred);
        Check.test("4. pushes nothing any more", TermsTest::pusherBreaks);
        Check.test("4. all riders get off, and wait there", TermsTest::ridersGetOff);
        Check.test("4. (at most 99 wait)", TermsTest::atMost99GetOff);
    }

    private static void mending() {
        Check.test("5. at a pole with a depot with a spare it is swapped: a spare is used", TermsTest::spareIsUsed);
        Check.test("5. not at the pole beside it", TermsTest::spareBeside);
        Check.test("5. Broken cars, by numbers", TermsTest::sparesByNumbers);
        Check.test("5. and nobody pushes it", TermsTest::nobodyPushesASwapped);
        Check.test("5. nobody pushes it, but others are pushed on", TermsTest::othersArePushedOn);
        Check.test("5. a car that goes in the same direction", TermsTest::pusherOfTheSameDirection);
        Check.test("5. and is at the same pole", TermsTest::pusherAtTheSamePole);
        Check.test("5. a car that runs", TermsTest::pusherRuns);
        Check.test("5. pushes it from now on, whatever its number is", TermsTest::pusherOfAnyNumber);
    }

    private static void theEndOfATick() {
        Check.test("6. one more waits, if the tick can be divided by k + 2", TermsTest::oneMoreWaits);
        Check.test("6. (at most 99)", TermsTest::oneMoreOf99);
        Check.test("6. Each dead section is dead for a tick less", TermsTest::eachDeadSection);
        Check.test("6. The tick is 1 greater", TermsTest::tickIsGreater);
    }

    // ---- the line

    private static void cutTowardsZero() {
        TramRibbon x = withRiders(19, 0);
        Check.due("19 / 10, and 2", x.car(0, 6), 3);
        x.pass(1);
        Check.due("of 19 riders 9 get off, one gets on", x.car(0, 2), 11);
    }

    /** Five poles; car 0 came from pole 0 to pole 1, where so many people got on. */
    private static TramRibbon withRiders(int riders, int wear) {
        TramRibbon x = Lines.withPoles(5);
        if (riders > 0) {
            x.come(1, riders);
        }
        x.put(0, true, wear);
        x.pass(1);
        return x;
    }

    private static void ticksFromZero() {
        TramRibbon x = new TramRibbon();
        Check.due("the tick at first", x.count(0), 0);
        x.pass(1);
        Check.due("the tick behind one", x.count(0), 1);
        Check.due("built anew in the tick 1", x.build(3), 8);
        Check.due("the tick behind build", x.count(0), 1);
    }

    private static void threeToSixteenPoles() {
        for (int poles = 3; poles <= 16; poles++) {
            TramRibbon x = new TramRibbon();
            int last = poles - 1;
            Check.due("build(" + poles + ")", x.build(poles), 8);
            Check.due("poles", x.count(1), poles);
            Check.due("the first pole of " + poles, x.pole(0, 0), 0);
            Check.due("the last pole of " + poles, x.pole(last, 0), 0);
            Check.refuses(x, "the pole -1", INDEX, () -> x.pole(-1, 0));
            Check.refuses(x, "a pole behind the last of " + poles, INDEX, () -> x.pole(last + 1, 0));
        }
        TramRibbon y = new TramRibbon();
        Check.refuses(y, "build(2)", ARGUMENT, () -> y.build(2));
        Check.refuses(y, "build(17)", ARGUMENT, () -> y.build(17));
    }

    private static void eightAtFirst() {
        TramRibbon x = new TramRibbon();
        Check.due("poles", x.count(1), 8);
        Check.due("the pole 7", x.pole(7, 0), 0);
        Check.refuses(x, "the pole 8", INDEX, () -> x.pole(8, 0));
        Check.due("the span 6", x.sectionOf(6), 0);
        Check.refuses(x, "the span 7", INDEX, () -> x.sectionOf(7));
    }

    private static void spansBetweenPoles() {
        for (int poles : new int[] {3, 8, 16}) {
            TramRibbon x = Lines.withPoles(poles);
            int last = poles - 2;
            Check.due("the last span of " + poles, x.setSlope(last, 1), 0);
            Check.refuses(x, "a span behind the last of " + poles, INDEX, () -> x.setSlope(last + 1, 1));
            Check.refuses(x, "the span -1", INDEX, () -> x.setSlope(-1, 1));
        }
        for (int span = 0; span < 15; span++) {
            for (int pole = 0; pole < 16; pole++) {
                TramRibbon x = Lines.withPoles(16);
                x.put(pole, true, 0);
                x.put(pole, false, 0);
                x.setSlope(span, 3);
                Check.due("up from " + pole + ", span " + span + " rises", x.car(0, 6), pole == 15 ? 0 : pole == span ? 5 : 2);
                Check.due("down from " + pole + ", span " + span + " rises", x.car(1, 6), pole == 0 ? 0 : 2);
                x.setSlope(span, -3);
                Check.due("up from " + pole + ", span " + span + " falls", x.car(0, 6), pole == 15 ? 0 : 2);
                Check.due("down from " + pole + ", span " + span + " falls", x.car(1, 6), pole == 0 ? 0 : pole == span + 1 ? 5 : 2);
            }
        }
    }

    private static void slopes() {
        TramRibbon x = new TramRibbon();
        int before = 0;
        for (int slope = -3; slope <= 3; slope++) {
            Check.due("setSlope(3, " + slope + ")", x.setSlope(3, slope), before);
            before = slope;
        }
        Check.refuses(x, "the slope -4", ARGUMENT, () -> x.setSlope(3, -4));
        Check.refuses(x, "the slope 4", ARGUMENT, () -> x.setSlope(3, 4));
    }

    private static void slopeZeroAtFirst() {
        for (int poles : new int[] {3, 8, 16}) {
            TramRibbon x = Lines.withPoles(poles);
            for (int span = 0; span < poles - 1; span++) {
                Check.due("the slope of the span " + span + " of " + poles, x.setSlope(span, 0), 0);
            }
        }
    }

    private static void upTowardsTheGreater() {
        TramRibbon x = new TramRibbon();
        x.put(3, true, 0);
        x.put(4, false, 0);
        for (int slope = -3; slope <= 3; slope++) {
            x.setSlope(3, slope);
            Check.due("up over " + slope, x.car(0, 6), slope > 0 ? 2 + slope : 2);
            Check.due("down over " + slope, x.car(1, 6), slope < 0 ? 2 - slope : 2);
        }
    }

    private static void insulators() {
        for (int poles : new int[] {3, 4, 8, 16}) {
            TramRibbon x = Lines.withPoles(poles);
            int last = poles - 1;
            Check.refuses(x, "an insulator at the first of " + poles, STATE, () -> x.cut(0));
            Check.refuses(x, "an insulator at the last of " + poles, STATE, () -> x.cut(last));
            Check.due("an insulator at the second of " + poles, x.cut(1), 2);
            if (poles > 3) {
                Check.due("an insulator at the last but one of " + poles, x.cut(last - 1), 3);
            }
            for (int pole = 0; pole <= last; pole++) {
                Check.due("insulators at " + pole + " of " + poles, x.pole(pole, 2), pole == 1 || pole == last - 1 ? 1 : 0);
            }
        }
    }

    private static void checkSections(String what, TramRibbon x, int[][] spans) {
        Check.due(what + ": sections", x.count(2), spans.length);
        for (int s = 0; s < spans.length; s++) {
            Check.due(what + ": the first span of " + s, x.section(s, 0), spans[s][0]);
            Check.due(what + ": the spans of " + s, x.section(s, 1), spans[s][1]);
        }
    }

    private static void sectionsBetween() {
        TramRibbon x = Lines.withPoles(3);
        checkSections("from end to end", x, new int[][] {{0, 2}});
        x.cut(1);
        checkSections("one span each", x, new int[][] {{0, 1}, {1, 1}});
        TramRibbon y = Lines.withPoles(16);
        checkSections("from end to end", y, new int[][] {{0, 15}});
        y.cut(14);
        checkSections("the last span", y, new int[][] {{0, 14}, {14, 1}});
        y.cut(1);
        checkSections("the first span", y, new int[][] {{0, 1}, {1, 13}, {14, 1}});
        TramRibbon z = Lines.full();
        int[][] single = new int[15][];
        for (int s = 0; s < 15; s++) {
            single[s] = new int[] {s, 1};
        }
        checkSections("15 of a span each", z, single);
    }

    private static void sectionsNumbered() {
        TramRibbon x = new TramRibbon();
        x.cut(6);
        x.cut(1);
        x.cut(2);
        int[] due = {0, 1, 2, 2, 2, 2, 3};
        for (int span = 0; span < due.length; span++) {
            Check.due("the section of the span " + span, x.sectionOf(span), due[span]);
        }
        Check.due("the last section", x.section(3, 0), 6);
        Check.refuses(x, "the section 4", INDEX, () -> x.section(4, 0));
        Check.refuses(x, "the section -1", INDEX, () -> x.section(-1, 0));
    }

    private static void bounds() {
        TramRibbon x = new TramRibbon();
        Check.due("the least bound", x.setBound(0, 1), 20);
        Check.due("it stands", x.section(0, 2), 1);
        Check.refuses(x, "the bound 0", ARGUMENT, () -> x.setBound(0, 0));
        Check.due("the greatest bound", x.setBound(0, 60), 1);
        Check.due("it stands", x.section(0, 2), 60);
        Check.refuses(x, "the bound 61", ARGUMENT, () -> x.setBound(0, 61));
    }

    private static void boundTwentyAtFirst() {
        for (int slope : new int[] {2, 3}) {
            TramRibbon x = Lines.withPoles(16);
            Check.due("the bound at first", x.section(0, 2), 20);
            for (int pole = 0; pole < 10; pole += 2) {
                x.setSlope(pole, 2);
                x.put(pole, true, 0);
            }
            x.setSlope(8, slope);
            Check.due("drawn by five cars", x.section(0, 4), 18 + slope);
            x.pass(1);
            Check.due("20 is borne, 21 is not", x.section(0, 5), slope == 2 ? 0 : 1);
        }
        TramRibbon y = new TramRibbon();
        y.setBound(0, 7);
        y.cut(3);
        Check.due("a section from a cut has the bound that was there", y.section(1, 2), 7);
        y.build(8);
        Check.due("one that is built has 20", y.section(0, 2), 20);
    }

    private static void depots() {
        TramRibbon x = Lines.withPoles(16);
        Check.due("no depot", x.pole(0, 3), -1);
        for (int pole : new int[] {0, 15}) {
            Check.due("a depot with 0 spares", x.depot(pole, 0), 0);
            Check.due("it is there", x.pole(pole, 3), 0);
        }
        Check.due("none beside it", x.pole(1, 3), -1);
        Check.due("none beside it", x.pole(14, 3), -1);
        Check.due("no spares in all", x.count(10), 0);
        Check.due("a depot with a spare", x.depot(15, 1), 1);
        Check.due("a spare in all", x.count(10), 1);
    }

    private static void upTo99Wait() {
        for (int pole : new int[] {0, 7, 15}) {
            TramRibbon x = Lines.withPoles(16);
            Check.due("nobody at first", x.pole(pole, 0), 0);
            Check.due("98 come", x.come(pole, 98), 98);
            Check.due("the 99th", x.come(pole, 1), 99);
            Check.due("the 100th does not wait", x.come(pole, 1), 99);
            Check.due("99 wait", x.pole(pole, 0), 99);
            Check.due("nobody else does", x.count(6), 99);
        }
        Check.due("99 at each of 16", Lines.full().count(6), 16 * 99);
    }

    // ---- the cars

    private static void sixCars() {
        TramRibbon x = Lines.withPoles(16);
        for (int car = 0; car < 6; car++) {
            Check.due("cars", x.count(4), car);
            Check.due("the next car", x.put(2 * car, true, 0), car);
        }
        Check.due("cars", x.count(4), 6);
        Check.refuses(x, "a seventh at an empty pole", STATE, () -> x.put(15, false, 0));
        x.pass(30);
        Check.refuses(x, "a seventh, later", STATE, () -> x.put(x.pole(0, 1) == 0 ? 0 : 15, true, 0));
    }

    private static void carsInOrder() {
        TramRibbon x = Lines.withPoles(16);
        int[] places = {9, 3, 15, 3, 0, 9};
        for (int pole : places) {
            x.put(pole, pole > 5, pole);
        }
        for (int car = 0; car < 6; car++) {
            Check.due("the pole of " + car, x.car(car, 0), places[car]);
            Check.due("the way of " + car, x.car(car, 1), places[car] > 5 ? 1 : 0);
            Check.due("the wear of " + car, x.car(car, 3), places[car]);
        }
    }

    private static void ridersToThirty() {
        int[][] due = {{0, 0}, {1, 1}, {29, 29}, {30, 30}, {31, 30}, {99, 30}};
        for (int[] d : due) {
            Check.due("riders where " + d[0] + " wait", withRiders(d[0], 0).car(0, 2), d[1]);
        }
    }

    private static void wearTo99() {
        TramRibbon x = new TramRibbon();
        x.put(0, true, 0);
        x.put(1, true, 99);
        Check.due("the least wear", x.car(0, 3), 0);
        Check.due("the greatest wear", x.car(1, 3), 99);
        Check.due("it runs", x.car(1, 4), 0);
        Check.refuses(x, "the wear -1", ARGUMENT, () -> x.put(2, true, -1));
        Check.refuses(x, "the wear 100", ARGUMENT, () -> x.put(2, true, 100));
        x.pass(1);
        Check.due("no more than 99", x.car(1, 3), 99);
        Check.due("it is broken", x.car(1, 4), 1);
    }

    private static void twoAtAPole() {
        for (int pole : new int[] {0, 1, 2}) {
            TramRibbon x = Lines.withPoles(3);
            int other = (pole + 1) % 3;
            Check.due("no car", x.pole(pole, 1), 0);
            x.put(pole, true, 0);
            Check.due("one car", x.pole(pole, 1), 1);
            x.put(pole, false, 0);
            Check.due("two cars", x.pole(pole, 1), 2);
            Check.refuses(x, "a third", STATE, () -> x.put(pole, true, 0));
            Check.due("a third car elsewhere", x.put(other, true, 0), 2);
        }
        TramRibbon y = new TramRibbon();
        y.put(3, true, 0);
        y.put(3, true, 0);
        y.pass(1);
        Check.due("a car where two have gone", y.put(3, true, 0), 2);
        Check.refuses(y, "a third where they are", STATE, () -> y.put(4, true, 0));
    }

    private static void noSpanAhead() {
        for (int last : new int[] {2, 7, 15}) {
            TramRibbon x = Lines.withPoles(last + 1);
            x.put(last, true, 0);
            x.put(last - 1, true, 0);
            x.put(0, false, 0);
            x.put(1, last == 2, 0);
            x.put(last, false, 0);
            x.put(0, true, 0);
            Check.due("up at the last pole", x.car(0, 6), 0);
            Check.due("up at the last but one", x.car(1, 6), 2);
            Check.due("down at the first pole", x.car(2, 6), 0);
            Check.due("at the second pole", x.car(3, 6), 2);
            Check.due("down at the last pole", x.car(4, 6), 2);
            Check.due("up at the first pole", x.car(5, 6), 2);
        }
        TramRibbon y = Lines.withPoles(3);
        y.put(1, false, 0);
        Check.due("down at the second pole of three", y.car(0, 6), 2);
    }

    private static void drawsTwo() {
        TramRibbon x = new TramRibbon();
        Check.due("drawn without cars", x.section(0, 4), 0);
        x.put(3, true, 0);
        Check.due("drawn by a car", x.car(0, 6), 2);
        Check.due("drawn from its section", x.section(0, 4), 2);
    }

    private static void drawsForRiders() {
        int[][] due = {{0, 2}, {1, 2}, {9, 2}, {10, 3}, {11, 3}, {19, 3}, {20, 4}, {29, 4}, {30, 5}};
        for (int[] d : due) {
            TramRibbon x = withRiders(d[0], 0);
            Check.due("drawn with " + d[0] + " riders", x.car(0, 6), d[1]);
            Check.due("drawn from the section", x.section(0, 4), d[1]);
        }
    }

    private static void drawsForTheSlope() {
        for (int slope = -3; slope <= 3; slope++) {
            TramRibbon x = withRiders(10, 0);
            x.setSlope(1, slope);
            Check.due("drawn uphill by " + slope, x.car(0, 6), 3 + (slope > 0 ? slope : 0));
            x.setSlope(1, 0);
            x.setSlope(0, slope);
            Check.due("the span behind it is nothing to it", x.car(0, 6), 3);
        }
    }

    private static void drawsForPushing() {
        TramRibbon x = Lines.withPusher(0);
        Check.due("drawn by a pusher", x.car(1, 6), 5);
        Check.due("drawn by what it pushes", x.car(0, 6), 0);
        Check.due("drawn by both", x.section(0, 4), 5);
        x.setSlope(2, 3);
        Check.due("drawn uphill", x.car(1, 6), 8);
        x.come(3, 20);
        x.pass(1);
        // Pole 3: one rider stays, one of the tick 0 and 20 more get on.
        Check.due("riders", x.car(1, 2), 22);
        x.setSlope(3, 2);
        Check.due("2, and 22 / 10, and 2, and 3", x.car(1, 6), 9);
    }

    private static void drawsFromTheSectionAhead() {
        TramRibbon x = Lines.withPoles(3);
        x.cut(1);
        x.put(1, true, 0);
        Check.due("up: nothing from the section behind it", x.section(0, 4), 0);
        Check.due("up: from the section ahead", x.section(1, 4), 2);
        x.put(1, false, 0);
        Check.due("down: from the other one", x.section(0, 4), 2);
        Check.due("down: not from this one", x.section(1, 4), 2);
    }

    private static void drawsNothing() {
        TramRibbon x = Lines.withPoles(3);
        x.setSlope(0, 3);
        x.setSlope(1, 3);
        x.put(2, true, 0);
        x.put(0, false, 0);
        Check.due("at both ends", x.car(0, 6) + x.car(1, 6) + x.section(0, 4), 0);
        TramRibbon y = Lines.withPoles(4);
        y.setSlope(2, 3);
        y.put(1, true, 97);
        y.pass(1);
        Check.due("broken, with a span that rises ahead", y.car(0, 6), 0);
        Check.due("from its section", y.section(0, 4), 0);
        y.put(1, true, 0);
        y.pass(2);
        Check.due("a pusher", y.car(1, 5), 0);
        Check.due("came to the last pole", y.car(1, 0), 3);
        Check.due("where it draws nothing", y.car(1, 6), 0);
    }

    // ---- turning and current

    private static void turnsAtTheEnds() {
        for (int last : new int[] {2, 7, 15}) {
            TramRibbon x = Lines.withPoles(last + 1);
            x.put(last, true, 0);
            x.put(0, false, 0);
            x.pass(1);
            Check.due("from the last pole", x.car(0, 0), last - 1);
            Check.due("down", x.car(0, 1), 0);
            Check.due("from the first pole", x.car(1, 0), 1);
            Check.due("up", x.car(1, 1), 1);
        }
        TramRibbon y = Lines.withPoles(3);
        y.put(0, true, 0);
        int[] places = {1, 2, 1, 0, 1, 2};
        int[] ups = {1, 1, 0, 0, 1, 1};
        for (int t = 0; t < places.length; t++) {
            y.pass(1);
            Check.due("its pole behind the tick " + t, y.car(0, 0), places[t]);
            Check.due("its way behind the tick " + t, y.car(0, 1), ups[t]);
        }
    }

    private static void turnsNowhereElse() {
        for (int last : new int[] {3, 7, 15}) {
            TramRibbon x = Lines.withPoles(last + 1);
            x.put(last - 1, true, 0);
            x.put(1, false, 0);
            x.put(0, true, 0);
            x.put(last, false, 0);
            x.pass(1);
            Check.due("on to the last pole", x.car(0, 0), last);
            Check.due("still up there", x.car(0, 1), 1);
            Check.due("on to the first pole", x.car(1, 0), 0);
            Check.due("still down there", x.car(1, 1), 0);
            Check.due("up from the first pole", x.car(2, 0) * 10 + x.car(2, 1), 11);
            Check.due("down from the last pole", x.car(3, 0) * 10 + x.car(3, 1), 10 * last - 10);
        }
    }

    private static void brokenDoesNotTurn() {
        TramRibbon x = Lines.withPoles(4);
        x.put(2, true, 97);
        x.put(1, false, 97);
        x.pass(3);
        Check.due("both are broken", x.count(5), 2);
        Check.due("at the last pole, up", x.car(0, 0) * 10 + x.car(0, 1), 31);
        Check.due("at the first pole, down", x.car(1, 0) * 10 + x.car(1, 1), 0);
    }

    private static void turnsWithoutCurrent() {
        TramRibbon x = Lines.withPoles(3);
        x.setBound(0, 1);
        x.put(2, true, 0);
        x.put(0, false, 0);
        x.pass(1);
        Check.due("the section is dead", x.section(0, 3), 2);
        Check.due("at the last pole, down", x.car(0, 0) * 10 + x.car(0, 1), 20);
        Check.due("at the first pole, up", x.car(1, 0) * 10 + x.car(1, 1), 1);
        x.pass(1);
        Check.due("it does not turn back", x.car(0, 1) * 10 + x.car(1, 1), 1);
    }

    private static void pushedTurnsAbove() {
        TramRibbon x = Lines.withPoles(3);
        x.put(1, true, 97);
        x.pass(2);
        x.put(1, true, 0);
        x.pass(1);
        Check.due("a pusher at the last pole", x.car(1, 0) * 10 + x.car(1, 5), 20);
        Check.due("both still up", x.car(0, 1) * 10 + x.car(1, 1), 11);
        x.pass(1);
        Check.due("both down, in an odd tick too", x.car(0, 1) * 10 + x.car(1, 1), 0);
        Check.due("still at the last pole", x.car(0, 0) * 10 + x.car(1, 0), 22);
        x.pass(1);
        Check.due("both gone", x.car(0, 0) * 10 + x.car(1, 0), 11);
    }

    private static void pushedTurnsBelow() {
        TramRibbon x = Lines.withPoles(3);
        x.put(1, false, 97);
        x.pass(2);
        x.put(1, false, 0);
        x.pass(1);
        Check.due("a pusher at the first pole", x.car(1, 0) * 10 + x.car(1, 5), 0);
        Check.due("both still down", x.car(0, 1) * 10 + x.car(1, 1), 0);
        x.pass(1);
        Check.due("both up, in an odd tick too", x.car(0, 1) * 10 + x.car(1, 1), 11);
        Check.due("still at the first pole", x.car(0, 0) * 10 + x.car(1, 0), 0);
        x.pass(1);
        Check.due("both gone", x.car(0, 0) * 10 + x.car(1, 0), 11);
    }

    private static void moreThanItsBound() {
        for (int slope = 0; slope <= 3; slope++) {
            for (int less = -1; less <= 1; less++) {
                TramRibbon x = new TramRibbon();
                x.setSlope(0, slope);
                x.put(0, true, 0);
                x.setBound(0, 2 + slope - less);
                x.pass(1);
                String what = (2 + slope) + " drawn, bound " + (2 + slope - less);
                Check.due(what + ", dead", x.section(0, 3), less == 1 ? 2 : 0);
                Check.due(what + ", became dead", x.section(0, 5), less == 1 ? 1 : 0);
                Check.due(what + ", dead sections", x.count(3), less == 1 ? 1 : 0);
                Check.due(what + ", the car's pole", x.car(0, 0), less == 1 ? 0 : 1);
            }
        }
    }

    private static void allIsAdded() {
        for (int bound = 11; bound <= 13; bound++) {
            TramRibbon x = Lines.withPoles(16);
            int[] places = {0, 0, 4, 9, 15, 15};
            for (int pole : places) {
                x.put(pole, pole < 15, 0);
            }
            x.setBound(0, bound);
            Check.due("drawn by six", x.section(0, 4), 12);
            x.pass(1);
            Check.due("six cars, bound " + bound, x.section(0, 5), bound < 12 ? 1 : 0);
        }
        TramRibbon y = new TramRibbon();
        y.cut(4);
        y.setBound(0, 2);
        y.setBound(1, 2);
        y.put(1, true, 0);
        y.put(4, true, 0);
        y.pass(1);
        Check.due("what others draw elsewhere is not added", y.count(3), 0);
    }

    private static void currentBehindTurning() {
        TramRibbon x = Lines.withPoles(3);
        x.cut(1);
        x.setBound(1, 1);
        x.put(2, true, 0);
        Check.due("nothing is drawn now", x.section(1, 4), 0);
        x.pass(1);
        Check.due("dead of a car that has turned", x.section(1, 3), 2);
        Check.due("which stands", x.car(0, 0), 2);
        TramRibbon y = Lines.withPoles(3);
        y.cut(1);
        y.setBound(1, 1);
        y.put(0, true, 0);
        y.pass(1);
        Check.due("not dead of a car that comes to its insulator", y.section(1, 5), 0);
        Check.due("though it draws from it then", y.section(1, 4), 2);
        y.pass(1);
        Check.due("but in the next tick", y.section(1, 5), 1);
    }

    private static void deadForThreeTicks() {
        TramRibbon x = new TramRibbon();
        x.put(3, true, 0);
        x.setBound(0, 1);
        x.pass(1);
        x.setBound(0, 60);
        int[] dead = {2, 1, 0, 0};
        int[] places = {3, 3, 3, 4};
        for (int t = 0; t < dead.length; t++) {
            Check.due("dead behind the tick " + t, x.section(0, 3), dead[t]);
            Check.due("dead sections behind it", x.count(3), dead[t] > 0 ? 1 : 0);
            Check.due("the car behind it", x.car(0, 0), places[t]);
            x.pass(1);
        }
    }

    private static void onlyALiveOneDies() {
        TramRibbon x = new TramRibbon();
        x.put(3, true, 0);
        x.setBound(0, 1);
        int[] dead = {2, 1, 0, 2, 1, 0, 2};
        int[] times = {1, 1, 1, 2, 2, 2, 3};
        for (int t = 0; t < dead.length; t++) {
            x.pass(1);
            Check.due("dead behind the tick " + t, x.section(0, 3), dead[t]);
            Check.due("became dead by then", x.section(0, 5), times[t]);
        }
        Check.due("the car stands", x.car(0, 0) * 10 + x.car(0, 7), 30);
    }

    // ---- going

    private static void liveAhead() {
        for (int dead = 0; dead <= 1; dead++) {
            TramRibbon x = Lines.withPoles(5);
            x.cut(2);
            x.setBound(dead, 1);
            x.put(0, true, 0);
            x.put(2, true, 0);
            x.put(4, false, 0);
            x.put(2, false, 0);
            x.pass(1);
            Check.due("up from 0, dead " + dead, x.car(0, 0), dead == 0 ? 0 : 1);
            Check.due("up from 2, dead " + dead, x.car(1, 0), dead == 0 ? 3 : 2);
            Check.due("down from 4, dead " + dead, x.car(2, 0), dead == 0 ? 3 : 4);
            Check.due("down from 2, dead " + dead, x.car(3, 0), dead == 0 ? 2 : 1);
        }
    }

    private static void fewerThanTwo() {
        for (int there = 0; there <= 2; there++) {
            TramRibbon x = Lines.withPoles(5);
            x.put(1, true, 0);
            for (int i = 0; i < there; i++) {
                x.put(2, true, 0);
            }
            x.pass(1);
            Check.due("up, " + there + " cars ahead", x.car(0, 0), there < 2 ? 2 : 1);
            Check.due("poles that it came to", x.car(0, 7), there < 2 ? 1 : 0);
            TramRibbon y = Lines.withPoles(5);
            y.put(3, false, 0);
            for (int i = 0; i < there; i++) {
                y.put(2, false, 0);
            }
            y.pass(1);
            Check.due("down, " + there + " cars ahead", y.car(0, 0), there < 2 ? 2 : 3);
        }
    }

    private static void goingByNumbers() {
        TramRibbon x = Lines.withPoles(5);
        x.put(2, true, 0);
        x.put(1, true, 0);
        x.put(2, true, 0);
        x.pass(1);
        Check.due("car 0 has gone, car 2 not yet: there is room for car 1", x.car(1, 0), 2);
        TramRibbon y = Lines.withPoles(5);
        y.put(1, true, 97);
        y.pass(1);
        y.put(1, true, 0);
        y.put(3, false, 0);
        y.pass(1);
        Check.due("car 1 takes the last place", y.car(1, 0), 2);
        Check.due("car 2 finds none", y.car(2, 0), 3);
        TramRibbon z = Lines.withPoles(5);
        z.put(1, true, 0);
        z.put(1, true, 0);
        z.put(2, false, 0);
        z.put(2, false, 0);
        z.pass(3);
        Check.due("two against two stand", z.car(0, 0) * 1000 + z.car(1, 0) * 100 + z.car(2, 0) * 10 + z.car(3, 0), 1122);
    }

    private static void pusherInEvenTicks() {
        TramRibbon x = Lines.withPusher(0);
        int[] places = {3, 3, 4, 4, 5, 5, 6};
        for (int i = 0; i < places.length; i++) {
            x.pass(1);
            Check.due("a pusher behind the tick " + (2 + i), x.car(1, 0), places[i]);
            Check.due("what it pushes", x.car(0, 0), places[i]);
        }
        TramRibbon y = new TramRibbon();
        y.put(1, true, 97);
        y.pass(2);
        y.put(1, true, 0);
        y.pass(1);
        Check.due("a pusher since the tick 2", y.car(1, 5), 0);
        y.pass(1);
        Check.due("not in the tick 3", y.car(1, 0), 2);
        y.pass(1);
        Check.due("in the tick 4", y.car(1, 0), 3);
    }

    private static void pusherNeedsCurrent() {
        for (int bound = 4; bound <= 6; bound++) {
            TramRibbon x = Lines.withPusher(0);
            x.setBound(0, bound);
            x.pass(1);
            Check.due("a pusher of 5, bound " + bound, x.car(1, 0), bound < 5 ? 2 : 3);
            Check.due("what it pushes", x.car(0, 0), bound < 5 ? 2 : 3);
        }
        TramRibbon y = Lines.withPusher(0);
        y.setBound(0, 4);
        y.pass(1);
        y.setBound(0, 5);
        y.pass(2);
        Check.due("dead in the ticks 2 to 4", y.car(1, 0), 2);
        y.pass(1);
        Check.due("live in the tick 5, which is odd", y.car(1, 0), 2);
        y.pass(1);
        Check.due("off in the tick 6", y.car(1, 0), 3);
    }

    private static void pusherNeedsAnEmptyPole() {
        for (int there = 0; there <= 2; there++) {
            TramRibbon x = Lines.withPusher(0);
            for (int i = 0; i < there; i++) {
                x.put(3, true, 0);
            }
            x.pass(1);
            Check.due("a pusher, " + there + " cars ahead", x.car(1, 0), there == 0 ? 3 : 2);
            Check.due("what it pushes", x.car(0, 0), there == 0 ? 3 : 2);
            Check.due("poles that it came to", x.car(0, 7), there == 0 ? 2 : 1);
            x.pass(2);
            Check.due("in the tick 4", x.car(1, 0), there == 0 ? 4 : 3);
        }
        TramRibbon y = Lines.withPusher(0);
        y.put(3, false, 0);
        y.pass(9);
        Check.due("a car against it: neither goes", y.car(1, 0) * 10 + y.car(2, 0), 23);
    }

    private static void pusherByNumbers() {
        TramRibbon x = new TramRibbon();
        x.cut(3);
        x.put(2, true, 0);
        x.put(1, true, 97);
        x.pass(1);
        // Car 0 is at pole 3, whose section dies in the tick 1; car 1 is broken at pole 2.
        x.setBound(1, 1);
        x.put(1, true, 0);
        x.pass(1);
        x.setBound(1, 20);
        Check.due("car 2 pushes car 1", x.car(2, 5), 1);
        x.pass(2);
        Check.due("car 0 is in its way in the tick 2", x.car(0, 0) * 10 + x.car(2, 0), 32);
        x.pass(1);
        Check.due("and goes ahead of it in the tick 4", x.car(0, 0) * 10 + x.car(2, 0), 43);
    }

    private static void takesTheBrokenAlong() {
        TramRibbon x = Lines.withPusher(0);
        Check.due("both at pole 2", x.pole(2, 1), 2);
        x.pass(1);
        Check.due("none at pole 2", x.pole(2, 1), 0);
        Check.due("both at pole 3", x.pole(3, 1), 2);
        Check.due("poles that the broken one came to", x.car(0, 7), 2);
        Check.due("poles that the pusher came to", x.car(1, 7), 2);
        x.pass(1);
        Check.due("nowhere in an odd tick", x.car(0, 7) + x.car(1, 7), 4);
    }

    // ---- at the poles

    private static void whoStands() {
        TramRibbon x = withRiders(9, 0);
        x.come(1, 50);
        x.setBound(0, 1);
        Check.due("nobody gets on", x.pass(3), 0);
        Check.due("nobody gets off", x.car(0, 2), 9);
        Check.due("no wear", x.car(0, 3), 3);
        Check.due("who waits, waits, with one of the tick 0 and one of the tick 3", x.pole(1, 0), 52);
        TramRibbon y = new TramRibbon();
        y.put(0, true, 99);
        y.setBound(0, 1);
        y.pass(200);
        Check.due("it does not break", y.car(0, 4), 0);
    }

    private static void pusherAndPushed() {
        TramRibbon x = Lines.withPusher(0);
        x.come(3, 40);
        Check.due("41 wait at pole 3, a pusher with a rider takes 29", x.pass(1), 29);
        Check.due("its riders", x.car(1, 2), 30);
        Check.due("its wear", x.car(1, 3), 8);
        Check.due("the pushed one takes nobody", x.car(0, 2), 0);
        Check.due("nor does it wear", x.car(0, 3), 99);
        Check.due("12 wait on", x.pole(3, 0), 12);
        Check.due("not in an odd tick", x.pass(1), 0);
        Check.due("its riders", x.car(1, 2), 30);
    }

    private static void halfGetOff() {
        int[][] due = {{0, 1}, {1, 2}, {2, 2}, {3, 3}, {4, 3}, {5, 4}, {29, 16}, {30, 16}};
        for (int[] d : due) {
            TramRibbon x = withRiders(d[0], 0);
            Check.due("one got on at pole 2", x.pass(1), 1);
            Check.due("of " + d[0] + " riders", x.car(0, 2), d[1]);
        }
    }

    private static void nobodyWaits() {
        TramRibbon x = Lines.withPoles(5);
        x.put(0, true, 0);
        Check.due("nobody waits in the tick 0", x.pass(1), 0);
        Check.due("an empty car", x.car(0, 2), 0);
        TramRibbon y = Lines.withPoles(5);
        y.come(1, 40);
        y.put(0, true, 0);
        y.put(0, true, 0);
        Check.due("40 get on", y.pass(1), 40);
        Check.due("one gets on", y.pass(1), 1);
        Check.due("into the first car", y.car(0, 2), 16);
        Check.due("five get off the second, where nobody waits any more", y.car(1, 2), 5);
        Check.due("nobody waits", y.pole(2, 0), 0);
    }

    private static void thirtyIntoAnEmptyCar() {
        for (int wait = 29; wait <= 31; wait++) {
            TramRibbon x = Lines.withPoles(5);
            x.come(1, wait);
            x.put(0, true, 0);
            int on = wait < 30 ? wait : 30;
            Check.due("of " + wait + " get on", x.pass(1), on);
            Check.due("ride", x.car(0, 2), on);
            Check.due("wait on, and one more", x.pole(1, 0), wait - on + 1);
            Check.due("got on in all", x.count(8), on);
            Check.due("ride in all", x.count(7), on);
        }
    }

    private static void thirtyIntoAFullCar() {
        for (int wait = 14; wait <= 16; wait++) {
            TramRibbon x = Lines.withPoles(5);
            x.come(1, 30);
            // One more waits at pole 2 from the tick 0 on.
            x.come(2, wait - 1);
            x.put(0, true, 0);
            x.pass(1);
            int on = wait < 15 ? wait : 15;
            Check.due("of " + wait + " get on, where 15 stay", x.pass(1), on);
            Check.due("ride", x.car(0, 2), 15 + on);
            Check.due("wait on", x.pole(2, 0), wait - on);
        }
    }

    private static void boardingByNumbers() {
        for (int wait = 59; wait <= 61; wait++) {
            TramRibbon x = Lines.withPoles(5);
            x.come(1, wait);
            x.put(2, false, 0);
            x.put(0, true, 0);
            x.pass(1);
            Check.due("the first car, of " + wait, x.car(0, 2), 30);
            Check.due("the second car", x.car(1, 2), wait < 60 ? 29 : 30);
            Check.due("wait on, and one more", x.pole(1, 0), wait < 61 ? 1 : 2);
        }
    }

    private static void wearOfRiders() {
        int[][] due = {{0, 3}, {19, 3}, {20, 3}, {21, 5}, {22, 5}, {30, 5}};
        for (int[] d : due) {
            Check.due("wear of " + d[0] + " riders", withRiders(d[0], 0).car(0, 3), d[1]);
        }
        for (int wait = 4; wait <= 6; wait++) {
            TramRibbon x = Lines.withPoles(5);
            x.come(1, 30);
            x.come(2, wait - 1);
            x.put(0, true, 10);
            x.pass(2);
            Check.due("ride then", x.car(0, 2), 15 + wait);
            Check.due("wear where 30 came and so many ride then", x.car(0, 3), wait < 6 ? 18 : 20);
        }
    }

    private static void brokenAtAHundred() {
        // Riders and wear ahead, wear and whether it is broken behind.
        int[][] due = {{0, 95, 98, 0}, {0, 96, 99, 0}, {0, 97, 99, 1}, {0, 98, 99, 1}, {0, 99, 99, 1},
            {20, 96, 99, 0}, {20, 97, 99, 1}, {21, 93, 98, 0}, {21, 94, 99, 0}, {21, 95, 99, 1}, {21, 99, 99, 1}};
        for (int[] d : due) {
            TramRibbon x = withRiders(d[0], d[1]);
            String what = "wear " + d[1] + " with " + d[0] + " riders";
            Check.due(what + ", wear", x.car(0, 3), d[2]);
            Check.due(what + ", broken", x.car(0, 4), d[3]);
            Check.due(what + ", broken ones", x.count(5), d[3]);
            Check.due(what + ", riders", x.car(0, 2), d[3] == 1 ? 0 : d[0]);
            x.pass(1);
            Check.due(what + ", its pole in the tick 1", x.car(0, 0), d[3] == 1 ? 1 : 2);
        }
    }

    private static void pusherBreaks() {
        for (int wear = 92; wear <= 95; wear++) {
            TramRibbon x = Lines.withPusher(wear);
            x.pass(1);
            boolean breaks = wear > 93;
            Check.due("a pusher of " + wear + " and 6, wear", x.car(1, 3), breaks ? 99 : wear + 6);
            Check.due("broken", x.car(1, 4), breaks ? 1 : 0);
            Check.due("what it pushes", x.car(1, 5), breaks ? -1 : 0);
            Check.due("both came to pole 3", x.pole(3, 1), 2);
            x.pass(2);
            Check.due("both in the tick 4", x.pole(4, 1), breaks ? 0 : 2);
        }
    }

    private static void ridersGetOff() {
        TramRibbon x = withRiders(5, 97);
        Check.due("it is broken", x.car(0, 4), 1);
        Check.due("nobody rides", x.car(0, 2), 0);
        Check.due("nobody rides in all", x.count(7), 0);
        Check.due("five wait, and one more", x.pole(1, 0), 6);
        Check.due("they got on, all the same", x.count(8), 5);
        Check.due("nobody rides, nobody gets off", withRiders(0, 97).pole(1, 0), 1);
    }

    /** Car 0 comes in the tick 1 with a rider to pole 1, where nobody comes in that tick, and breaks. */
    private static void atMost99GetOff() {
        for (int wait = 96; wait <= 99; wait++) {
            TramRibbon x = Lines.withPoles(5);
            x.come(2, 1);
            x.come(1, wait - 1);
            x.put(3, false, 92);
            Check.due("one gets on", x.pass(1), 1);
            Check.due("wait at pole 1", x.pole(1, 0), wait);
            Check.due("29 get on", x.pass(1), 29);
            Check.due("it is broken", x.car(0, 4), 1);
            Check.due("wait at pole 1, of " + wait + " less 29 and 30", x.pole(1, 0), wait < 99 ? wait + 1 : 99);
        }
    }

    // ---- mending

    private static void spareIsUsed() {
        for (int spares = -1; spares <= 9; spares++) {
            TramRibbon x = Lines.withPoles(3);
            if (spares >= 0) {
                x.depot(1, spares);
            }
            x.put(0, true, 97);
            x.pass(1);
            boolean swapped = spares > 0;
            String what = "with " + spares + " spares, ";
            Check.due(what + "broken", x.car(0, 4), swapped ? 0 : 1);
            Check.due(what + "wear", x.car(0, 3), swapped ? 0 : 99);
            Check.due(what + "spares then", x.pole(1, 3), swapped ? spares - 1 : spares);
            Check.due(what + "swaps", x.count(9), swapped ? 1 : 0);
            Check.due(what + "all spares", x.count(10), swapped ? spares - 1 : 0);
            x.pass(1);
            Check.due(what + "its pole in the tick 1", x.car(0, 0), swapped ? 2 : 1);
            Check.due(what + "a second time", x.count(9), swapped ? 1 : 0);
        }
    }

    private static void spareBeside() {
        TramRibbon x = Lines.withPoles(3);
        x.depot(0, 9);
        x.depot(2, 9);
        x.put(0, true, 97);
        x.pass(5);
        Check.due("broken between two depots", x.car(0, 4), 1);
        Check.due("all spares", x.count(10), 18);
    }

    private static void sparesByNumbers() {
        for (int spares = 0; spares <= 3; spares++) {
            TramRibbon x = Lines.withPoles(3);
            x.depot(1, spares);
            x.put(2, false, 97);
            x.put(0, true, 97);
            x.pass(1);
            Check.due("car 0 is broken", x.car(0, 4), spares > 0 ? 0 : 1);
            Check.due("car 1 is broken", x.car(1, 4), spares > 1 ? 0 : 1);
            Check.due("spares", x.pole(1, 3), spares > 2 ? 1 : 0);
            Check.due("swaps", x.count(9), spares > 2 ? 2 : spares);
        }
        TramRibbon y = Lines.withPoles(3);
        y.depot(1, 1);
        y.put(0, true, 97);
        y.put(0, true, 97);
        y.pass(1);
        Check.due("swapped first, car 0 pushes car 1 from the same tick on", y.car(0, 5), 1);
    }

    private static void nobodyPushesASwapped() {
        for (int spares = 0; spares <= 1; spares++) {
            TramRibbon x = Lines.withPusher(0);
            x.depot(3, spares);
            x.pass(1);
            Check.due("it is broken", x.car(0, 4), spares == 0 ? 1 : 0);
            Check.due("what car 1 pushes", x.car(1, 5), spares == 0 ? 0 : -1);
            Check.due("what car 0 pushes", x.car(0, 5), -1);
            x.pass(1);
            Check.due("on in the tick 3, which is odd", x.car(0, 0) * 10 + x.car(1, 0), spares == 0 ? 33 : 44);
        }
    }

    /** Two broken cars are pushed, one from pole 2 and one from pole 10; one of them comes to a spare. */
    private static void othersArePushedOn() {
        for (int depot : new int[] {3, 11}) {
            TramRibbon x = Lines.withPoles(16);
            x.put(1, true, 97);
            x.put(9, true, 97);
            x.pass(1);
            x.put(9, true, 0);
            x.put(1, true, 0);
            x.pass(1);
            Check.due("car 2 pushes", x.car(2, 5), 1);
            Check.due("car 3 pushes", x.car(3, 5), 0);
            x.depot(depot, 1);
            x.pass(1);
            Check.due("car 2 pushes, a spare at " + depot, x.car(2, 5), depot == 11 ? -1 : 1);
            Check.due("car 3 pushes, a spare at " + depot, x.car(3, 5), depot == 3 ? -1 : 0);
        }
    }

    private static void pusherOfTheSameDirection() {
        for (int up = 0; up <= 1; up++) {
            TramRibbon x = new TramRibbon();
            x.put(1, true, 97);
            x.pass(1);
            x.put(up == 1 ? 1 : 3, up == 1, 0);
            x.pass(1);
            Check.due("at the pole of the broken one", x.car(1, 0), 2);
            Check.due("it pushes, if it goes up", x.car(1, 5), up == 1 ? 0 : -1);
            x.pass(1);
            Check.due("on its way", x.car(1, 0), up == 1 ? 3 : 1);
            Check.due("the broken one", x.car(0, 0), up == 1 ? 3 : 2);
            TramRibbon y = new TramRibbon();
            y.put(3, false, 97);
            y.pass(1);
            y.put(up == 1 ? 1 : 3, up == 1, 0);
            y.pass(1);
            Check.due("it pushes, if it goes down", y.car(1, 5), up == 1 ? -1 : 0);
        }
    }

    private static void pusherAtTheSamePole() {
        for (int pole = 1; pole <= 3; pole++) {
            TramRibbon x = new TramRibbon();
            x.put(1, true, 97);
            x.pass(1);
            x.put(pole, true, 0);
            x.setBound(0, 1);
            x.pass(1);
            Check.due("it stands", x.car(1, 0), pole);
            Check.due("from pole " + pole + " it pushes", x.car(1, 5), pole == 2 ? 0 : -1);
        }
    }

    private static void pusherRuns() {
        for (int wear = 96; wear <= 97; wear++) {
            TramRibbon x = Lines.withPoles(5);
            x.put(0, true, 97);
            x.put(0, true, wear);
            x.pass(1);
            Check.due("a car of " + wear + " and 3 pushes", x.car(1, 5), wear == 96 ? 0 : -1);
            Check.due("car 0 pushes nothing", x.car(0, 5), -1);
        }
    }

    private static void pusherOfAnyNumber() {
        TramRibbon x = Lines.withPoles(5);
        x.put(0, true, 0);
        x.put(1, true, 97);
        x.pass(1);
        Check.due("not there yet", x.car(0, 5), -1);
        x.pass(1);
        Check.due("a smaller number pushes a greater one", x.car(0, 5), 1);
        x.pass(1);
        Check.due("from now on", x.car(0, 5), 1);
        Check.due("both go", x.pole(3, 1), 2);
        TramRibbon y = Lines.withPoles(5);
        y.put(0, true, 97);
        y.put(0, true, 0);
        y.pass(1);
        Check.due("a greater number pushes a smaller one", y.car(1, 5), 0);
    }

    // ---- the end of a tick

    private static void oneMoreWaits() {
        for (int pole = 0; pole < 16; pole++) {
            TramRibbon x = Lines.withPoles(16);
            int due = 0;
            for (int tick = 0; tick < 40; tick++) {
                x.pass(1);
                due += tick % (pole + 2) == 0 ? 1 : 0;
                Check.due("wait at " + pole + " behind the tick " + tick, x.pole(pole, 0), due);
            }
        }
    }

    private static void oneMoreOf99() {
        for (int pole : new int[] {0, 7, 15}) {
            for (int wait = 97; wait <= 99; wait++) {
                TramRibbon x = Lines.withPoles(16);
                x.come(pole, wait);
                x.pass(1);
                Check.due("one more than " + wait + " at " + pole, x.pole(pole, 0), wait < 99 ? wait + 1 : 99);
            }
        }
        // Pole 0 is a pole of the even ticks: 99 wait behind the tick 196, the 99th of them.
        TramRibbon y = new TramRibbon();
        y.pass(196);
        Check.due("behind 98 even ticks", y.pole(0, 0), 98);
        y.pass(1);
        Check.due("behind 99", y.pole(0, 0), 99);
        y.pass(3);
        Check.due("behind 100", y.pole(0, 0), 99);
    }

    private static void eachDeadSection() {
        TramRibbon x = Lines.withPoles(5);
        x.cut(2);
        x.setBound(0, 1);
        x.setBound(1, 1);
        x.put(0, true, 0);
        x.pass(1);
        x.setBound(0, 60);
        x.put(4, false, 0);
        int[][] dead = {{2, 0}, {1, 2}, {0, 1}, {0, 0}};
        for (int t = 0; t < dead.length; t++) {
            Check.due("section 0 behind the tick " + t, x.section(0, 3), dead[t][0]);
            Check.due("section 1 behind the tick " + t, x.section(1, 3), dead[t][1]);
            int sections = (dead[t][0] > 0 ? 1 : 0) + (dead[t][1] > 0 ? 1 : 0);
            Check.due("dead sections behind it", x.count(3), sections);
            x.pass(1);
        }
    }

    private static void tickIsGreater() {
        TramRibbon x = new TramRibbon();
        for (int tick = 1; tick <= 5; tick++) {
            x.pass(1);
            Check.due("the tick", x.count(0), tick);
        }
        x.pass(200);
        Check.due("the tick", x.count(0), 205);
    }
}
