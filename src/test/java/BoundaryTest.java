import java.math.BigInteger;
import java.util.Arrays;

/**
 * The sentences of the promises 1 to 20 that name a boundary, each with a test of its own: what is
 * taken at the boundary, what is empty and what is full. What is refused beside it: RefusalTest.
 */
public final class BoundaryTest {
    private static final Class<IndexOutOfBoundsException> INDEX = IndexOutOfBoundsException.class;
    private static final Class<IllegalArgumentException> ARGUMENT = IllegalArgumentException.class;
    private static final Class<IllegalStateException> STATE = IllegalStateException.class;
    private static final Lines.Maker[] MAKERS = {TramRibbon::new, Lines::busy, Lines::crowded, Lines::full,
        () -> Lines.withPusher(0), () -> Lines.withPusher(93), BoundaryTest::turning};

    private BoundaryTest() {
    }

    public static void main(String[] args) {
        Check.test("the lines that tests begin with have what they are said to have", BoundaryTest::linesHaveIt);
        theLine();
        whatIsThere();
        ticks();
        lookingAhead();
        sums();
        Check.end("BoundaryTest");
    }

    private static void theLine() {
        Check.test("1: a line of 8 poles, in the tick 0", BoundaryTest::newObject);
        Check.test("2: poles is 3 to 16", BoundaryTest::buildTakes);
        Check.test("2: returns how many there were", BoundaryTest::buildReturns);
        Check.test("2: without slopes, insulators, depots and people, with one new section", BoundaryTest::buildClears);
        Check.test("3: such a span, and slope is -3 to 3", BoundaryTest::setSlopeTakes);
        Check.test("4: such a pole, not the first or the last one", BoundaryTest::cutTakes);
        Check.test("4: returns how many sections there are", BoundaryTest::cutReturns);
        Check.test("4: both have the bound that it had", BoundaryTest::cutKeepsTheBound);
        Check.test("4: and are dead as it was", BoundaryTest::cutKeepsTheDead);
        Check.test("4: the section there: those behind it stay as they are", BoundaryTest::cutMovesTheOthers);
        Check.test("5: such a section, and bound is 1 to 60", BoundaryTest::setBoundTakes);
        Check.test("6: spares is 0 to 9", BoundaryTest::depotTakes);
        Check.test("6: not more than 9", BoundaryTest::depotFills);
        Check.test("6: a pole, which has a depot from now on", BoundaryTest::depotFromNowOn);
        Check.test("7: people is 1 to 99", BoundaryTest::comeTakes);
        Check.test("7: returns how many wait then (at most 99)", BoundaryTest::comeFills);
        Check.test("8: wear is 0 to 99", BoundaryTest::putTakes);
        Check.test("8: a car which runs, without riders", BoundaryTest::putIsEmpty);
        Check.test("8: there are 6, or 2 at this pole", BoundaryTest::putFills);
    }

    private static void whatIsThere() {
        Check.test("9: 3 spares, -1 without a depot", BoundaryTest::poleSpares);
        Check.test("9: what is 0 to 3, of each pole", BoundaryTest::poleOfEmptyAndFull);
        Check.test("10: of the first and the last span", BoundaryTest::sectionOfEnds);
        Check.test("11: 3 for how many ticks it is dead, 0 if it is live", BoundaryTest::sectionDead);
        Check.test("11: 4 what is drawn from it now", BoundaryTest::sectionDrawn);
        Check.test("11: 5 that of the section it was cut from is kept by the first of both", BoundaryTest::sectionDeaths);
        Check.test("12: 1 1 if it goes up, else 0; 4 1 if it is broken, else 0", BoundaryTest::carFlags);
        Check.test("12: 5 the car that it pushes, -1 for none", BoundaryTest::carPushes);
        Check.test("12: 7 poles that it came to in all (also taken along)", BoundaryTest::carCame);
    }

    private static void ticks() {
        Check.test("13: ticks is 1 to 200", BoundaryTest::passTakes);
        Check.test("13: how many people got on in them", BoundaryTest::passReturns);
        Check.test("14: all of a line where there is nothing", BoundaryTest::countOfNothing);
        Check.test("14: all of a line that is full", BoundaryTest::countOfAll);
        Check.test("14: 3 sections that are dead", BoundaryTest::countDead);
        Check.test("14: 8 people who got on in all, 9 swaps in all", BoundaryTest::countInAll);
    }

    private static void lookingAhead() {
        Check.test("15: behind how many ticks: 1 at the least", BoundaryTest::nextIsOne);
        Check.test("15: a car that runs, -1 if none does", BoundaryTest::nextIsNone);
        Check.test("15: at most 150: as the ticks will go", BoundaryTest::nextAsItGoes);
        Check.test("16: how many, 1 to 100", BoundaryTest::needsTakes);
        Check.test("16: the hundredth tick counts", BoundaryTest::needsOfTheLast);
        Check.test("16: as step 2 of it looks at it", BoundaryTest::needsBehindTurning);
        Check.test("16: whether it is live or dead", BoundaryTest::needsOfADead);
        Check.test("17: ticks is 1 to 100: as the ticks would go", BoundaryTest::adviseTakes);
        Check.test("17: the hundredth tick counts", BoundaryTest::adviseOfTheLast);
        Check.test("17: of several the one with the smallest number", BoundaryTest::adviseSmallest);
        Check.test("17: -1 if no more get on by any", BoundaryTest::adviseNone);
        Check.test("18: how many, 1 to 150", BoundaryTest::foreseeTakes);
        Check.test("18: nobody and nothing", BoundaryTest::foreseeNothing);
        Check.test("15 to 18: nothing is changed", BoundaryTest::nothingIsChanged);
    }

    private static void sums() {
        Check.test("19: all who wait, divided by the poles", BoundaryTest::means);
        Check.test("20: starts with 809, and wraps around as a 64-bit integer", BoundaryTest::digestWraps);
        Check.test("20: of known lines", BoundaryTest::digestIsKnown);
        Check.test("20: each number in its order", BoundaryTest::digestOfEach);
    }

    // ---- lines that tests begin with

    /** Five poles, and a car at each end, which turns in the next tick. */
    private static TramRibbon turning() {
        TramRibbon x = Lines.withPoles(5);
        x.cut(2);
        x.setSlope(0, 2);
        x.setSlope(3, -3);
        x.come(1, 45);
        x.come(3, 14);
        x.put(4, true, 0);
        x.put(0, false, 60);
        return x;
    }

    private static void linesHaveIt() {
        TramRibbon x = Lines.busy();
        int[] due = {2, 16, 5, 1, 5, 1, 133, 18, 33, 1, 11};
        for (int what = 0; what < due.length; what++) {
            Check.due("busy: count(" + what + ")", x.count(what), due[what]);
        }
        Check.due("busy: a dead section", x.section(3, 3), 1);
        Check.due("busy: a pusher", x.car(4, 5), 0);
        Check.due("busy: a depot without a spare", x.pole(0, 3), 0);
        Check.due("crowded: six cars", Lines.crowded().count(4), 6);
        Check.due("pusher: car 1 pushes car 0", Lines.withPusher(0).car(1, 5), 0);
    }

    // ---- the line

    private static void newObject() {
        TramRibbon x = new TramRibbon();
        Check.due("the tick", x.count(0), 0);
        Check.due("poles", x.count(1), 8);
        TramRibbon y = new TramRibbon();
        y.build(8);
        Check.dueAlike("a new line, and one that is built of 8", x, y);
    }

    private static void buildTakes() {
        for (int poles = 3; poles <= 16; poles++) {
            TramRibbon x = new TramRibbon();
            x.build(poles);
            Check.due("build(" + poles + "), poles", x.count(1), poles);
            Check.due("spans", x.section(0, 1), poles - 1);
        }
        TramRibbon y = new TramRibbon();
        Check.refuses(y, "build(2)", ARGUMENT, () -> y.build(2));
        Check.refuses(y, "build(17)", ARGUMENT, () -> y.build(17));
    }

    private static void buildReturns() {
        TramRibbon x = new TramRibbon();
        int[] sizes = {3, 16, 16, 3, 3, 8};
        int before = 8;
        for (int poles : sizes) {
            Check.due("build(" + poles + ")", x.build(poles), before);
            before = poles;
        }
    }

    private static void buildClears() {
        for (int from : new int[] {3, 8, 16}) {
            for (int to : new int[] {3, 8, 16}) {
                TramRibbon x = Lines.withPoles(from);
                for (int pole = 0; pole < from; pole++) {
                    x.depot(pole, 9);
                    x.come(pole, 99);
                }
                for (int span = 0; span < from - 1; span++) {
                    x.setSlope(span, 3);
                }
                for (int pole = from - 2; pole > 0; pole--) {
                    x.setBound(0, pole);
                    x.cut(pole);
                }
                x.build(to);
                Check.dueAlike("built of " + to + " behind one of " + from, x, Lines.withPoles(to));
            }
        }
        TramRibbon y = new TramRibbon();
        y.pass(7);
        y.build(5);
        Check.due("the tick is not among what it is built without", y.count(0), 7);
        Check.due("the people are", y.count(6), 0);
    }

    private static void setSlopeTakes() {
        for (int poles : new int[] {3, 8, 16}) {
            TramRibbon x = Lines.withPoles(poles);
            for (int span : new int[] {0, poles - 2}) {
                Check.due("setSlope(" + span + ", -3)", x.setSlope(span, -3), 0);
                Check.due("setSlope(" + span + ", 3)", x.setSlope(span, 3), -3);
                Check.due("setSlope(" + span + ", 0)", x.setSlope(span, 0), 3);
            }
        }
    }

    private static void cutTakes() {
        for (int poles = 3; poles <= 16; poles++) {
            for (int pole = 1; pole < poles - 1; pole++) {
                TramRibbon x = Lines.withPoles(poles);
                String what = "cut(" + pole + ") of " + poles + ", ";
                Check.due(what + "sections", x.cut(pole), 2);
                Check.due(what + "the span ahead of it", x.sectionOf(pole - 1), 0);
                Check.due(what + "the span behind it", x.sectionOf(pole), 1);
                Check.due(what + "spans of section 0", x.section(0, 1), pole);
                Check.due(what + "the first span of section 1", x.section(1, 0), pole);
                Check.due(what + "spans of section 1", x.section(1, 1), poles - 1 - pole);
                int again = pole;
                Check.refuses(x, what + "again", STATE, () -> x.cut(again));
            }
        }
    }

    private static void cutReturns() {
        TramRibbon x = Lines.withPoles(16);
        for (int pole = 1; pole <= 14; pole++) {
            Check.due("cut(" + pole + ")", x.cut(pole), pole + 1);
        }
        Check.due("sections, all of them", x.count(2), 15);
        TramRibbon y = Lines.withPoles(3);
        Check.due("one at first", y.count(2), 1);
        Check.due("the only cut of three poles", y.cut(1), 2);
    }

    private static void cutKeepsTheBound() {
        for (int bound : new int[] {1, 2, 59, 60}) {
            TramRibbon x = Lines.withPoles(16);
            x.cut(5);
            x.cut(10);
            x.setBound(1, bound);
            x.cut(7);
            int[] due = {20, bound, bound, 20};
            for (int section = 0; section < due.length; section++) {
                Check.due("the bound of " + section, x.section(section, 2), due[section]);
            }
        }
    }

    private static void cutKeepsTheDead() {
        for (int passed = 0; passed <= 3; passed++) {
            TramRibbon x = Lines.withPoles(16);
            x.cut(5);
            x.cut(10);
            x.setBound(1, 1);
            x.put(6, true, 0);
            for (int t = 0; t < passed; t++) {
                x.pass(1);
            }
            x.cut(7);
            int dead = passed == 0 ? 0 : 3 - passed;
            int[] due = {0, dead, dead, 0};
            for (int section = 0; section < due.length; section++) {
                Check.due("behind " + passed + " ticks section " + section + " is dead for", x.section(section, 3), due[section]);
            }
            Check.due("dead sections", x.count(3), dead > 0 ? 2 : 0);
            Check.due("became dead, the first of both", x.section(1, 5), passed > 0 ? 1 : 0);
            Check.due("became dead, the second", x.section(2, 5), 0);
            if (dead > 0) {
                x.pass(1);
                Check.due("a tick later, the second is dead for", x.section(2, 3), dead - 1);
            }
        }
    }

    private static void cutMovesTheOthers() {
        TramRibbon x = Lines.withPoles(16);
        x.cut(5);
        x.cut(10);
        x.setBound(1, 1);
        x.setBound(2, 3);
        x.put(6, true, 0);
        x.put(11, true, 0);
        x.put(11, true, 0);
        x.pass(4);
        // Section 1 has become dead twice, and section 2 twice.
        x.setBound(2, 60);
        x.pass(3);
        x.setBound(1, 9);
        x.cut(2);
        int[][] due = {{0, 2, 20, 0, 0, 0}, {2, 3, 20, 0, 0, 0}, {5, 5, 9, 2, 2, 3}, {10, 5, 60, 0, 4, 2}};
        for (int section = 0; section < due.length; section++) {
            for (int what = 0; what <= 5; what++) {
                Check.due("section(" + section + ", " + what + ")", x.section(section, what), due[section][what]);
            }
        }
        for (int span = 0; span < 15; span++) {
            Check.due("the section of the span " + span, x.sectionOf(span), span < 2 ? 0 : span < 5 ? 1 : span < 10 ? 2 : 3);
        }
    }

    private static void setBoundTakes() {
        TramRibbon x = Lines.full();
        for (int section : new int[] {0, 14}) {
            Check.due("setBound(" + section + ", 1)", x.setBound(section, 1), 20);
            Check.due("setBound(" + section + ", 60)", x.setBound(section, 60), 1);
            Check.due("setBound(" + section + ", 59)", x.setBound(section, 59), 60);
            Check.due("setBound(" + section + ", 2)", x.setBound(section, 2), 59);
        }
        Check.due("the one beside it", x.section(1, 2), 20);
        Check.due("the other one beside it", x.section(13, 2), 20);
        TramRibbon y = new TramRibbon();
        y.put(0, true, 0);
        y.setBound(0, 1);
        y.pass(1);
        y.setBound(0, 60);
        Check.due("a greater bound does not make it live", y.section(0, 3), 2);
        y.setBound(0, 1);
        Check.due("nor is it dead anew by a smaller one", y.section(0, 5), 1);
    }

    private static void depotTakes() {
        for (int spares = 0; spares <= 9; spares++) {
            for (int pole : new int[] {0, 15}) {
                TramRibbon x = Lines.withPoles(16);
                Check.due("depot(" + pole + ", " + spares + ")", x.depot(pole, spares), spares);
                Check.due("spares there", x.pole(pole, 3), spares);
                Check.due("spares in all", x.count(10), spares);
            }
        }
    }

    private static void depotFills() {
        for (int first = 0; first <= 9; first++) {
            TramRibbon x = new TramRibbon();
            x.depot(3, first);
            Check.due("0 more than " + first, x.depot(3, 0), first);
            Check.due("as many more as there is room", x.depot(3, 9 - first), 9);
            Check.due("0 more than 9", x.depot(3, 0), 9);
            Check.refuses(x, "one more than 9", STATE, () -> x.depot(3, 1));
            Check.refuses(x, "9 more than 9", STATE, () -> x.depot(3, 9));
            Check.due("9 at the pole beside it", x.depot(4, 9), 9);
        }
    }

    private static void depotFromNowOn() {
        TramRibbon x = new TramRibbon();
        Check.refuses(x, "a refused depot", ARGUMENT, () -> x.depot(2, 10));
        Check.due("is none", x.pole(2, 3), -1);
        x.depot(2, 0);
        x.pass(1);
        Check.due("a depot stays", x.pole(2, 3), 0);
        TramRibbon y = Lines.withPoles(3);
        y.depot(1, 1);
        y.put(0, true, 97);
        y.pass(1);
        Check.due("without its last spare it is a depot still", y.pole(1, 3), 0);
        Check.due("which can be filled", y.depot(1, 9), 9);
    }

    private static void comeTakes() {
        for (int pole : new int[] {0, 15}) {
            for (int people : new int[] {1, 2, 98, 99}) {
                TramRibbon x = Lines.withPoles(16);
                Check.due("come(" + pole + ", " + people + ")", x.come(pole, people), people);
                Check.due("wait there", x.pole(pole, 0), people);
                Check.due("wait in all", x.count(6), people);
            }
        }
    }

    private static void comeFills() {
        int[][] due = {{98, 1, 99}, {97, 1, 98}, {99, 1, 99}, {1, 98, 99}, {1, 97, 98}, {1, 99, 99}, {99, 99, 99}, {50, 49, 99}, {50, 50, 99}};
        for (int[] d : due) {
            TramRibbon x = new TramRibbon();
            x.come(4, d[0]);
            Check.due(d[1] + " come to " + d[0], x.come(4, d[1]), d[2]);
            Check.due("wait there", x.pole(4, 0), d[2]);
        }
    }

    private static void putTakes() {
        int[] wears = {0, 1, 98, 99};
        for (int wear : wears) {
            for (int pole : new int[] {0, 15}) {
                TramRibbon x = Lines.withPoles(16);
                Check.due("put(" + pole + ", true, " + wear + ")", x.put(pole, true, wear), 0);
                Check.due("its wear", x.car(0, 3), wear);
                Check.due("its pole", x.car(0, 0), pole);
            }
        }
    }

    private static void putIsEmpty() {
        TramRibbon x = new TramRibbon();
        x.come(0, 99);
        x.put(0, true, 99);
        Check.due("it is not broken", x.car(0, 4), 0);
        Check.due("nobody rides", x.car(0, 2), 0);
        Check.due("all wait", x.pole(0, 0), 99);
        Check.due("it pushes nothing", x.car(0, 5), -1);
        Check.due("it came nowhere", x.car(0, 7), 0);
        Check.due("nobody got on", x.count(8), 0);
    }

    private static void putFills() {
        TramRibbon x = Lines.withPoles(3);
        for (int car = 0; car < 6; car++) {
            Check.due("put, two at each pole", x.put(car / 2, true, 0), car);
            int pole = car / 2;
            if (car % 2 == 1) {
                Check.refuses(x, "a third at " + pole, STATE, () -> x.put(pole, false, 0));
            }
        }
        TramRibbon y = Lines.withPoles(16);
        for (int car = 0; car < 6; car++) {
            Check.due("put, one at a pole", y.put(car, true, 0), car);
        }
        Check.refuses(y, "a seventh at an empty pole", STATE, () -> y.put(6, true, 0));
        Check.refuses(y, "a seventh at a pole of one", STATE, () -> y.put(5, true, 0));
    }

    // ---- what is there

    private static void poleSpares() {
        TramRibbon x = new TramRibbon();
        Check.due("without a depot", x.pole(0, 3), -1);
        x.depot(0, 0);
        Check.due("with an empty one", x.pole(0, 3), 0);
        x.depot(0, 9);
        Check.due("with a full one", x.pole(0, 3), 9);
        Check.due("at the pole beside it", x.pole(1, 3), -1);
    }

    private static void poleOfEmptyAndFull() {
        TramRibbon x = Lines.withPoles(16);
        TramRibbon y = Lines.full();
        int[] places = {2, 2, 0, 0, 0, 0, 0, 0, 0, 0, 0, 0, 0, 0, 0, 2};
        for (int pole = 0; pole < 16; pole++) {
            int[] empty = {0, 0, 0, -1};
            int[] full = {99, places[pole], pole > 0 && pole < 15 ? 1 : 0, 9};
            for (int what = 0; what <= 3; what++) {
                Check.due("an empty line, pole(" + pole + ", " + what + ")", x.pole(pole, what), empty[what]);
                Check.due("a full line, pole(" + pole + ", " + what + ")", y.pole(pole, what), full[what]);
            }
        }
        Check.refuses(y, "pole(15, 4)", INDEX, () -> y.pole(15, 4));
        Check.refuses(y, "pole(15, -1)", INDEX, () -> y.pole(15, -1));
    }

    private static void sectionOfEnds() {
        TramRibbon x = Lines.full();
        Check.due("the first span", x.sectionOf(0), 0);
        Check.due("the last span", x.sectionOf(14), 14);
        TramRibbon y = Lines.withPoles(3);
        Check.due("the last of two", y.sectionOf(1), 0);
        y.cut(1);
        Check.due("cut off", y.sectionOf(1), 1);
    }

    private static void sectionDead() {
        TramRibbon x = Lines.withPoles(4);
        x.cut(1);
        x.cut(2);
        x.setBound(1, 1);
        x.put(1, true, 0);
        Check.due("live at first", x.section(1, 3), 0);
        int[] due = {2, 1, 0};
        for (int dead : due) {
            x.pass(1);
            Check.due("dead for", x.section(1, 3), dead);
            Check.due("the one ahead of it", x.section(0, 3), 0);
            Check.due("the one behind it", x.section(2, 3), 0);
        }
    }

    private static void sectionDrawn() {
        TramRibbon x = Lines.full();
        x.setSlope(14, -3);
        int[] due = {4, 4, 0, 0, 0, 0, 0, 0, 0, 0, 0, 0, 0, 0, 10};
        for (int section = 0; section < due.length; section++) {
            Check.due("drawn from " + section, x.section(section, 4), due[section]);
        }
        x.setBound(0, 1);
        x.pass(1);
        Check.due("dead", x.section(0, 3), 2);
        Check.due("it is drawn from nonetheless", x.section(0, 4), 4);
    }

    private static void sectionDeaths() {
        TramRibbon x = Lines.withPoles(5);
        x.setBound(0, 1);
        x.put(0, true, 0);
        x.pass(4);
        Check.due("dead twice", x.section(0, 5), 2);
        x.cut(2);
        Check.due("kept by the first", x.section(0, 5), 2);
        Check.due("not by the second", x.section(1, 5), 0);
        x.cut(1);
        int[] due = {2, 0, 0};
        for (int section = 0; section < due.length; section++) {
            Check.due("became dead, section " + section, x.section(section, 5), due[section]);
        }
        x.put(4, false, 0);
        x.pass(3);
        x.cut(3);
        int[] then = {3, 0, 1, 0};
        for (int section = 0; section < then.length; section++) {
            Check.due("became dead by then, section " + section, x.section(section, 5), then[section]);
        }
    }

    private static void carFlags() {
        TramRibbon x = Lines.withPoles(3);
        x.put(0, true, 97);
        x.put(0, false, 96);
        Check.due("up", x.car(0, 1), 1);
        Check.due("down", x.car(1, 1), 0);
        x.pass(1);
        Check.due("broken", x.car(0, 4), 1);
        Check.due("not broken", x.car(1, 4), 0);
    }

    private static void carPushes() {
        TramRibbon x = Lines.withPusher(0);
        Check.due("the car 0 is not none", x.car(1, 5), 0);
        Check.due("none", x.car(0, 5), -1);
        TramRibbon y = Lines.withPoles(16);
        int[] places = {15, 13, 11, 9, 0, 0};
        for (int car = 0; car < places.length; car++) {
            y.put(places[car], car > 3, car == 5 ? 97 : 0);
        }
        y.pass(1);
        Check.due("the car 5", y.car(4, 5), 5);
        for (int car = 0; car < 6; car++) {
            Check.due("car " + car + " pushes", y.car(car, 5), car == 4 ? 5 : -1);
        }
    }

    private static void carCame() {
        TramRibbon x = Lines.withPusher(0);
        Check.due("put to its pole it did not come there", new TramRibbon().put(0, true, 0), 0);
        Check.due("by itself", x.car(0, 7), 1);
        x.pass(1);
        Check.due("also taken along", x.car(0, 7), 2);
        x.pass(1);
        Check.due("it stood in the tick 3", x.car(0, 7), 2);
        TramRibbon y = Lines.withPoles(3);
        for (int pole = 0; pole < 3; pole++) {
            y.depot(pole, 9);
        }
        y.put(0, true, 0);
        y.pass(200);
        Check.due("a pole in each tick, counted on behind a swap", y.car(0, 7), 200);
        Check.due("it was swapped", y.count(9) > 0 ? 1 : 0, 1);
    }

    // ---- ticks

    private static void passTakes() {
        for (Lines.Maker maker : MAKERS) {
            TramRibbon x = maker.make();
            TramRibbon y = maker.make();
            int tick = x.count(0);
            int on = 0;
            for (int t = 0; t < 200; t++) {
                on += y.pass(1);
            }
            Check.due("got on in 200 ticks", x.pass(200), on);
            Check.due("the tick", x.count(0), tick + 200);
            Check.dueAlike("200 ticks at once or one by one", x, y);
        }
    }

    private static void passReturns() {
        Check.due("nobody, without cars", new TramRibbon().pass(200), 0);
        TramRibbon x = Lines.withPoles(3);
        x.put(0, true, 0);
        Check.due("nobody, where nobody waits", x.pass(1), 0);
        Check.due("one", x.pass(1), 1);
        TramRibbon y = Lines.full();
        y.setBound(0, 1);
        y.setBound(1, 1);
        y.setBound(14, 1);
        Check.due("nobody, without current", y.pass(200), 0);
        Check.due("30 into each of four cars, two stand", Lines.full().pass(1), 120);
    }

    private static void countOfNothing() {
        for (int poles : new int[] {3, 16}) {
            TramRibbon x = Lines.withPoles(poles);
            int[] due = {0, poles, 1, 0, 0, 0, 0, 0, 0, 0, 0};
            for (int what = 0; what < due.length; what++) {
                Check.due("count(" + what + ") of " + poles, x.count(what), due[what]);
            }
            x.depot(1, 0);
            Check.due("a depot without spares", x.count(10), 0);
        }
    }

    private static void countOfAll() {
        TramRibbon x = Lines.full();
        int[] due = {0, 16, 15, 0, 6, 0, 1584, 0, 0, 0, 144};
        for (int what = 0; what < due.length; what++) {
            Check.due("count(" + what + ")", x.count(what), due[what]);
        }
        x.pass(2);
        Check.due("30 in each of six", x.count(7), 180);
        TramRibbon y = Lines.withPoles(16);
        for (int car = 0; car < 6; car++) {
            y.put(2 * car, true, 99);
        }
        y.pass(1);
        Check.due("all broken", y.count(5), 6);
    }

    private static void countDead() {
        TramRibbon x = Lines.full();
        for (int section = 0; section < 15; section++) {
            x.setBound(section, 1);
        }
        int[] due = {3, 3, 0, 3};
        for (int dead : due) {
            x.pass(1);
            Check.due("dead sections", x.count(3), dead);
        }
        Check.due("the first of them", x.section(0, 3), 2);
        Check.due("the last of them", x.section(14, 3), 2);
    }

    private static void countInAll() {
        TramRibbon x = Lines.withPoles(3);
        x.depot(1, 2);
        x.come(1, 3);
        x.put(0, true, 97);
        x.pass(1);
        Check.due("got on", x.count(8), 3);
        Check.due("swaps", x.count(9), 1);
        Check.due("spares", x.count(10), 1);
        Check.due("those of a swapped car wait, and one more", x.count(6), 6);
        x.put(0, true, 97);
        x.pass(1);
        Check.due("swaps", x.count(9), 2);
        Check.due("spares", x.count(10), 0);
        x.put(0, true, 97);
        x.pass(1);
        Check.due("no swap without a spare", x.count(9), 2);
    }

    // ---- looking ahead

    private static void nextIsOne() {
        TramRibbon x = Lines.withPoles(16);
        x.put(7, true, 0);
        Check.foretells(x, "the pole ahead", 1, () -> x.next(8));
        Check.foretells(x, "the one behind that", 2, () -> x.next(9));
        Check.foretells(x, "the last pole", 8, () -> x.next(15));
        Check.foretells(x, "the pole where it is", 16, () -> x.next(7));
        Check.foretells(x, "the first pole", 23, () -> x.next(0));
        TramRibbon y = Lines.withPoles(3);
        y.put(2, true, 0);
        y.put(2, false, 0);
        Check.foretells(y, "two at once", 1, () -> y.next(1));
        Check.foretells(y, "the last pole, and back", 4, () -> y.next(2));
    }

    private static void nextIsNone() {
        TramRibbon x = new TramRibbon();
        Check.foretells(x, "without cars", -1, () -> x.next(0));
        x.put(3, true, 97);
        Check.foretells(x, "it comes, and breaks there", 1, () -> x.next(4));
        Check.foretells(x, "it comes no further", -1, () -> x.next(5));
        Check.foretells(x, "nor does it come to where it is", -1, () -> x.next(3));
        x.pass(1);
        Check.foretells(x, "broken", -1, () -> x.next(4));
        TramRibbon y = Lines.full();
        for (int section = 0; section < 15; section++) {
            y.setBound(section, 1);
        }
        for (int pole = 0; pole < 16; pole++) {
            int at = pole;
            Check.foretells(y, "without current, pole " + at, -1, () -> y.next(at));
        }
        TramRibbon z = Lines.withPusher(0);
        Check.foretells(z, "a pusher in the tick 2", 1, () -> z.next(3));
        Check.foretells(z, "and in the tick 4", 3, () -> z.next(4));
        // It comes to pole 7 in the tick 10, turns in the tick 11, and is back in the tick 20.
        Check.foretells(z, "the pole that both leave", 19, () -> z.next(2));
    }

    /** The first tick of 150 in which a car that runs comes to the pole, looked at tick by tick. */
    private static int comesBehind(Lines.Maker maker, int pole) {
        for (int t = 1; t <= 150; t++) {
            TramRibbon before = maker.make();
            if (t > 1) {
                before.pass(t - 1);
            }
            TramRibbon behind = maker.make();
            behind.pass(t);
            for (int car = 0; car < before.count(4); car++) {
                boolean came = behind.car(car, 7) > before.car(car, 7) && behind.car(car, 0) == pole;
                if (came && before.car(car, 4) == 0) {
                    return t;
                }
            }
        }
        return -1;
    }

    private static void nextAsItGoes() {
        for (Lines.Maker maker : MAKERS) {
            int poles = maker.make().count(1);
            for (int pole = 0; pole < poles; pole++) {
                Check.due("next(" + pole + ") of " + poles, maker.make().next(pole), comesBehind(maker, pole));
            }
        }
    }

    private static void needsTakes() {
        for (Lines.Maker maker : MAKERS) {
            int sections = maker.make().count(2);
            for (int section = 0; section < sections; section++) {
                int most = 0;
                for (int t = 1; t <= 100; t++) {
                    TramRibbon then = maker.make();
                    if (t > 1) {
                        then.pass(t - 1);
                    }
                    most = Math.max(most, then.needs(section, 1));
                    if (t <= 3 || t >= 99) {
                        Check.due("needs(" + section + ", " + t + ")", maker.make().needs(section, t), most);
                    }
                }
            }
        }
    }

    /** A state that was searched for: four draw 4 at most in 99 ticks, and 5 in the hundredth. */
    private static void needsOfTheLast() {
        Lines.Maker maker = () -> {
            TramRibbon x = Lines.withPoles(4);
            x.cut(2);
            x.setBound(1, 8);
            x.depot(2, 5);
            x.put(3, false, 26);
            x.put(3, true, 98);
            return x;
        };
        Check.due("in 99 ticks", maker.make().needs(1, 99), 4);
        Check.due("in 100 ticks", maker.make().needs(1, 100), 5);
        TramRibbon y = maker.make();
        y.pass(99);
        Check.due("in the hundredth", y.needs(1, 1), 5);
        TramRibbon z = Lines.withPoles(3);
        z.cut(1);
        z.put(0, true, 0);
        Check.due("in the first nothing", z.needs(1, 1), 0);
        Check.due("in the second a car is there", z.needs(1, 2), 2);
    }

    private static void needsBehindTurning() {
        TramRibbon x = Lines.withPoles(3);
        x.cut(1);
        x.setSlope(1, -3);
        x.put(2, true, 0);
        Check.due("nothing is drawn now", x.section(1, 4), 0);
        Check.foretells(x, "behind turning it is", 5, () -> x.needs(1, 1));
        Check.foretells(x, "from the other one not yet", 0, () -> x.needs(0, 1));
        Check.foretells(x, "but in the next tick", 2, () -> x.needs(0, 2));
        Check.foretells(new TramRibbon(), "without cars", 0, () -> new TramRibbon().needs(0, 100));
    }

    private static void needsOfADead() {
        TramRibbon x = new TramRibbon();
        x.setBound(0, 1);
        x.put(0, true, 0);
        x.put(7, true, 0);
        for (int t = 0; t < 4; t++) {
            Check.foretells(x, "dead for " + x.section(0, 3), 4, () -> x.needs(0, 1));
            x.pass(1);
        }
        Check.foretells(x, "it stays as it is", 4, () -> x.needs(0, 100));
    }

    private static void adviseTakes() {
        for (Lines.Maker maker : MAKERS) {
            for (int ticks : new int[] {1, 2, 50, 99, 100}) {
                Check.due("advise(" + ticks + ")", maker.make().advise(ticks), bestCut(maker, ticks));
            }
        }
    }

    /** The pole where a cut, really made, lets the most get on. */
    private static int bestCut(Lines.Maker maker, int ticks) {
        int most = maker.make().pass(ticks);
        int best = -1;
        int poles = maker.make().count(1);
        for (int pole = 1; pole < poles - 1; pole++) {
            TramRibbon x = maker.make();
            if (x.pole(pole, 2) == 0) {
                x.cut(pole);
                int on = x.pass(ticks);
                if (on > most) {
                    most = on;
                    best = pole;
                }
            }
        }
        return best;
    }

    /** A state that was searched for: no cut helps by the tick 99, one at pole 1 by the hundredth. */
    private static void adviseOfTheLast() {
        Lines.Maker maker = () -> {
            TramRibbon x = Lines.withPoles(3);
            x.setBound(0, 6);
            x.depot(0, 2);
            x.depot(1, 5);
            x.put(1, true, 16);
            x.put(0, false, 6);
            x.put(0, false, 55);
            return x;
        };
        Check.due("in 99 ticks", maker.make().advise(99), -1);
        Check.due("in 100 ticks", maker.make().advise(100), 1);
        TramRibbon plain = maker.make();
        TramRibbon cut = maker.make();
        cut.cut(1);
        Check.due("in 99 ticks the cut is worth", cut.pass(99) - plain.pass(99), 0);
        Check.due("and in the hundredth two more", cut.pass(1) - plain.pass(1), 2);
    }

    private static void adviseSmallest() {
        TramRibbon x = Lines.withPoles(6);
        x.setBound(0, 3);
        x.come(2, 20);
        x.put(1, true, 0);
        x.put(4, true, 0);
        // Cars at 1 and 4, both going up, have sections of their own with a cut at 2, 3 or 4.
        Check.foretells(x, "of 2, 3 and 4", 2, () -> x.advise(1));
        x.cut(1);
        Check.foretells(x, "an insulator that is no help", 2, () -> x.advise(1));
        TramRibbon y = Lines.withPoles(6);
        y.setBound(0, 3);
        y.come(2, 20);
        y.put(1, true, 0);
        y.put(2, true, 0);
        Check.foretells(y, "one alone", 2, () -> y.advise(1));
        TramRibbon z = Lines.withPoles(16);
        z.setBound(0, 3);
        z.come(1, 5);
        z.come(14, 5);
        z.put(0, true, 0);
        z.put(15, true, 0);
        Check.foretells(z, "the second pole", 1, () -> z.advise(1));
        z.cut(1);
        z.put(2, true, 0);
        z.come(3, 9);
        Check.foretells(z, "the next one that helps", 3, () -> z.advise(1));
        TramRibbon w = Lines.withPoles(4);
        w.setBound(0, 3);
        w.come(3, 5);
        w.put(1, true, 0);
        w.put(2, true, 0);
        Check.foretells(w, "the last but one", 2, () -> w.advise(1));
    }

    private static void adviseNone() {
        Check.foretells(new TramRibbon(), "without cars", -1, () -> new TramRibbon().advise(100));
        TramRibbon x = Lines.full();
        Check.foretells(x, "where all is cut", -1, () -> x.advise(100));
        TramRibbon y = Lines.withPoles(3);
        y.put(0, true, 0);
        Check.foretells(y, "where there is current enough", -1, () -> y.advise(100));
        TramRibbon z = Lines.withPoles(4);
        z.setBound(0, 3);
        z.put(0, true, 0);
        z.put(2, true, 0);
        Check.foretells(z, "where nobody waits", -1, () -> z.advise(1));
        z.come(3, 1);
        Check.foretells(z, "where one waits", 1, () -> z.advise(1));
    }

    private static void foreseeTakes() {
        for (Lines.Maker maker : MAKERS) {
            for (int ticks : new int[] {1, 2, 149, 150}) {
                TramRibbon then = maker.make();
                int on = then.pass(ticks);
                String what = "foresee(" + ticks + ", ";
                Check.due(what + "0)", maker.make().foresee(ticks, 0), on);
                Check.due(what + "1)", maker.make().foresee(ticks, 1), then.count(6));
                Check.due(what + "2)", maker.make().foresee(ticks, 2), then.count(5));
            }
        }
        // At pole 0 one more waits in each even tick, the last of 149 is the tick 148.
        TramRibbon x = Lines.withPoles(3);
        x.come(1, 99);
        x.come(2, 99);
        Check.due("wait behind 148 ticks", x.foresee(148, 1), 198 + 74);
        Check.due("wait behind 149 ticks", x.foresee(149, 1), 198 + 75);
        x.pass(1);
        Check.due("wait behind 149 more", x.foresee(149, 1), 198 + 75);
        Check.due("wait behind 150 more", x.foresee(150, 1), 198 + 76);
    }

    private static void foreseeNothing() {
        TramRibbon x = new TramRibbon();
        Check.foretells(x, "nobody gets on", 0, () -> x.foresee(150, 0));
        Check.foretells(x, "one waits at each pole", 8, () -> x.foresee(1, 1));
        Check.foretells(x, "nothing is broken", 0, () -> x.foresee(150, 2));
        TramRibbon y = Lines.withPoles(16);
        for (int car = 0; car < 6; car++) {
            y.put(2 * car, true, 99);
        }
        Check.foretells(y, "all six are broken", 6, () -> y.foresee(1, 2));
        y.pass(1);
        Check.foretells(y, "and stay so", 6, () -> y.foresee(150, 2));
        Check.foretells(y, "nobody gets on any more", 0, () -> y.foresee(150, 0));
    }

    private static void nothingIsChanged() {
        for (Lines.Maker maker : MAKERS) {
            TramRibbon x = maker.make();
            int poles = x.count(1);
            int sections = x.count(2);
            for (int pole = 0; pole < poles; pole++) {
                x.next(pole);
            }
            for (int section = 0; section < sections; section++) {
                x.needs(section, 100);
            }
            x.advise(100);
            for (int what = 0; what <= 2; what++) {
                x.foresee(150, what);
            }
            Check.dueAlike("behind looking ahead", x, maker.make());
        }
    }

    // ---- sums

    private static void means() {
        for (int poles : new int[] {3, 7, 16}) {
            TramRibbon x = Lines.withPoles(poles);
            Check.dueDouble("nobody waits at " + poles, x.mean(), 0.0);
            x.come(0, 1);
            Check.dueDouble("one waits at " + poles, x.mean(), 1.0 / poles);
            x.come(poles - 1, 1);
            Check.dueDouble("two wait at " + poles, x.mean(), 2.0 / poles);
        }
        Check.dueDouble("99 wait at each pole", Lines.full().mean(), 99.0);
        TramRibbon y = Lines.withPoles(3);
        y.come(0, 99);
        y.come(1, 99);
        y.come(2, 98);
        Check.dueDouble("296 at 3 poles", y.mean(), 296.0 / 3.0);
    }

    /** The numbers of the checksum, told by the calls that it names. The slopes are read by setting them. */
    private static BigInteger[] told(TramRibbon x) {
        BigInteger[] all = new BigInteger[400];
        int n = 0;
        for (int what = 0; what <= 10; what++) {
            all[n++] = BigInteger.valueOf(x.count(what));
        }
        int poles = x.count(1);
        for (int pole = 0; pole < poles; pole++) {
            for (int what = 0; what <= 3; what++) {
                all[n++] = BigInteger.valueOf(x.pole(pole, what));
            }
        }
        for (int span = 0; span < poles - 1; span++) {
            int slope = x.setSlope(span, 0);
            x.setSlope(span, slope);
            all[n++] = BigInteger.valueOf(slope);
            all[n++] = BigInteger.valueOf(x.sectionOf(span));
        }
        int sections = x.count(2);
        for (int section = 0; section < sections; section++) {
            for (int what = 0; what <= 5; what++) {
                all[n++] = BigInteger.valueOf(x.section(section, what));
            }
        }
        int cars = x.count(4);
        for (int car = 0; car < cars; car++) {
            for (int what = 0; what <= 7; what++) {
                all[n++] = BigInteger.valueOf(x.car(car, what));
            }
        }
        return Arrays.copyOf(all, n);
    }

    private static void digestWraps() {
        boolean below = false;
        boolean above = false;
        for (Lines.Maker maker : MAKERS) {
            for (int ticks = 0; ticks < 6; ticks++) {
                TramRibbon x = maker.make();
                if (ticks > 0) {
                    x.pass(ticks);
                }
                BigInteger d = BigInteger.valueOf(809);
                for (BigInteger number : told(x)) {
                    d = d.multiply(BigInteger.valueOf(31)).add(number);
                }
                Check.due("the sum is greater than 64 bits hold", d.bitLength() > 64 ? 1 : 0, 1);
                // The 64 bits that are lowest, the highest of them for the sign.
                long due = d.longValue();
                Check.due("the digest", x.digest(), due);
                below |= due < 0;
                above |= due > Integer.MAX_VALUE;
            }
        }
        Check.due("digests below and above 0 were looked at", below && above ? 1 : 0, 1);
    }

    /** Computed outside of Java, from the numbers that the document gives for these lines. */
    private static void digestIsKnown() {
        Check.due("a new object", new TramRibbon().digest(), 4878812154905941787L);
        Check.due("three poles", Lines.withPoles(3).digest(), -9194782543653169792L);
        Check.due("a full line", Lines.full().digest(), -626444250186887715L);
    }

    private static void digestOfEach() {
        for (int poles : new int[] {3, 16}) {
            for (int pole = 0; pole < poles; pole++) {
                TramRibbon x = Lines.withPoles(poles);
                TramRibbon y = Lines.withPoles(poles);
                int at = pole;
                // Behind who waits at the pole k come 3 numbers of it, and 4 of each pole behind it.
                int behind = 3 + 4 * (poles - 1 - at) + 2 * (poles - 1) + 6;
                x.come(at, 5);
                y.come(at, 6);
                // The sum of all who wait is behind the tick, and has 4 numbers of count() behind it.
                int all = 4 + 4 * poles + 2 * (poles - 1) + 6;
                Check.due("one more at " + at, y.digest() - x.digest(), power(behind) + power(all));
            }
            for (int span = 0; span < poles - 1; span++) {
                TramRibbon x = Lines.withPoles(poles);
                TramRibbon y = Lines.withPoles(poles);
                x.setSlope(span, -3);
                y.setSlope(span, 3);
                int behind = 1 + 2 * (poles - 2 - span) + 6;
                Check.due("6 more of the span " + span, y.digest() - x.digest(), 6 * power(behind));
            }
        }
    }

    private static long power(int n) {
        return BigInteger.valueOf(31).pow(n).longValue();
    }
}
