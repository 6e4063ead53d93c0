/**
 * Every refused call: which exception comes, which one first where several apply, and that nothing
 * has changed behind it. The numbers beside the boundaries that are taken are in BoundaryTest.
 */
public final class RefusalTest {
    private static final Class<IndexOutOfBoundsException> INDEX = IndexOutOfBoundsException.class;
    private static final Class<IllegalArgumentException> ARGUMENT = IllegalArgumentException.class;
    private static final Class<IllegalStateException> STATE = IllegalStateException.class;

    private RefusalTest() {
    }

    public static void main(String[] args) {
        Check.test("build: poles is not 3 to 16", RefusalTest::buildOfWrongSize);
        Check.test("build: there are cars", RefusalTest::buildWithCars);
        Check.test("build: the argument ahead of the state", RefusalTest::buildOfWrongSizeWithCars);
        Check.test("setSlope: there is no such span", RefusalTest::setSlopeOfNoSpan);
        Check.test("setSlope: slope is not -3 to 3", RefusalTest::setSlopeTooSteep);
        Check.test("setSlope: the index ahead of the argument", RefusalTest::setSlopeOfNoSpanTooSteep);
        Check.test("cut: there is no such pole", RefusalTest::cutAtNoPole);
        Check.test("cut: it is the first or the last one", RefusalTest::cutAtAnEnd);
        Check.test("cut: there is an insulator", RefusalTest::cutTwice);
        Check.test("setBound: there is no such section", RefusalTest::setBoundOfNoSection);
        Check.test("setBound: bound is not 1 to 60", RefusalTest::setBoundOutside);
        Check.test("setBound: the index ahead of the argument", RefusalTest::setBoundOfNoSectionOutside);
        Check.test("depot: there is no such pole", RefusalTest::depotAtNoPole);
        Check.test("depot: spares is not 0 to 9", RefusalTest::depotOfWrongSpares);
        Check.test("depot: there would be more than 9", RefusalTest::depotTooFull);
        Check.test("depot: the index, the argument, the state", RefusalTest::depotInOrder);
        Check.test("come: there is no such pole", RefusalTest::comeToNoPole);
        Check.test("come: people is not 1 to 99", RefusalTest::comeOutside);
        Check.test("come: the index ahead of the argument", RefusalTest::comeToNoPoleOutside);
        Check.test("put: there is no such pole", RefusalTest::putAtNoPole);
        Check.test("put: wear is not 0 to 99", RefusalTest::putOutside);
        Check.test("put: there are 6", RefusalTest::putASeventh);
        Check.test("put: there are 2 at this pole", RefusalTest::putAThird);
        Check.test("put: the index, the argument, the state", RefusalTest::putInOrder);
        Check.test("pole: there is no such pole", RefusalTest::poleOfNoPole);
        Check.test("pole: what is not 0 to 3", RefusalTest::poleOfNothing);
        Check.test("sectionOf: there is no such span", RefusalTest::sectionOfNoSpan);
        Check.test("section: there is no such section", RefusalTest::sectionOfNoSection);
        Check.test("section: what is not 0 to 5", RefusalTest::sectionOfNothing);
        Check.test("car: there is no such car", RefusalTest::carOfNoCar);
        Check.test("car: what is not 0 to 7", RefusalTest::carOfNothing);
        Check.test("pass: ticks is not 1 to 200", RefusalTest::passOutside);
        Check.test("count: what is not 0 to 10", RefusalTest::countOfNothing);
        Check.test("next: there is no such pole", RefusalTest::nextAtNoPole);
        Check.test("needs: there is no such section", RefusalTest::needsOfNoSection);
        Check.test("needs: ticks is not 1 to 100", RefusalTest::needsOutside);
        Check.test("needs: the index ahead of the argument", RefusalTest::needsOfNoSectionOutside);
        Check.test("advise: ticks is not 1 to 100", RefusalTest::adviseOutside);
        Check.test("foresee: ticks is not 1 to 150", RefusalTest::foreseeOutside);
        Check.test("foresee: what is not 0 to 2", RefusalTest::foreseeOfNothing);
        Check.test("foresee: the argument ahead of the index", RefusalTest::foreseeOutsideOfNothing);
        Check.test("a new object refuses as well", RefusalTest::ofANewObject);
        Check.end("RefusalTest");
    }

    /** The numbers just outside of least to greatest, and far ones, that arithmetic might wrap around. */
    private static int[] outside(int least, int greatest) {
        return new int[] {least - 1, greatest + 1, least - 2, greatest + 2, least - 256, greatest + 256,
            least - 65536, greatest + 65536, Integer.MIN_VALUE, Integer.MIN_VALUE + greatest,
            Integer.MAX_VALUE, Integer.MAX_VALUE - greatest};
    }

    /** A line of just so many poles, with a car at its pole 1 and a tick gone by. */
    private static Lines.Maker used(int poles) {
        return () -> {
            TramRibbon x = Lines.withPoles(poles);
            x.put(1, true, 3);
            x.come(poles - 1, 7);
            x.pass(1);
            return x;
        };
    }

    private static void buildOfWrongSize() {
        Lines.Maker made = () -> {
            TramRibbon x = Lines.withPoles(5);
            x.setSlope(1, 2);
            x.cut(2);
            x.setBound(1, 7);
            x.depot(3, 4);
            x.come(4, 9);
            x.pass(2);
            return x;
        };
        for (int poles : outside(3, 16)) {
            Check.refused(made, "build(" + poles + ")", ARGUMENT, x -> x.build(poles));
            Check.refused(TramRibbon::new, "build(" + poles + ") of a new object", ARGUMENT, x -> x.build(poles));
        }
        for (int poles = -1; poles < 3; poles++) {
            int few = poles;
            Check.refused(made, "build(" + few + ")", ARGUMENT, x -> x.build(few));
        }
    }

    private static void buildWithCars() {
        Lines.Maker one = used(8);
        for (int poles : new int[] {3, 7, 8, 9, 16}) {
            Check.refused(one, "build(" + poles + ") with one car", STATE, x -> x.build(poles));
            Check.refused(Lines::busy, "build(" + poles + ") with five", STATE, x -> x.build(poles));
            Check.refused(Lines::crowded, "build(" + poles + ") with six", STATE, x -> x.build(poles));
        }
        Lines.Maker broken = () -> {
            TramRibbon x = Lines.withPoles(4);
            x.put(1, true, 99);
            x.pass(1);
            return x;
        };
        Check.refused(broken, "build(4) with a broken car", STATE, x -> x.build(4));
    }

    private static void buildOfWrongSizeWithCars() {
        for (int poles : outside(3, 16)) {
            Check.refused(Lines::busy, "build(" + poles + ") with cars", ARGUMENT, x -> x.build(poles));
        }
    }

    private static void setSlopeOfNoSpan() {
        for (int poles : new int[] {3, 8, 16}) {
            for (int span : outside(0, poles - 2)) {
                Check.refused(used(poles), "setSlope(" + span + ", 1) of " + poles, INDEX, x -> x.setSlope(span, 1));
            }
        }
        for (int span : outside(0, 14)) {
            Check.refused(Lines::busy, "setSlope(" + span + ", 3)", INDEX, x -> x.setSlope(span, 3));
        }
    }

    private static void setSlopeTooSteep() {
        for (int slope : outside(-3, 3)) {
            for (int span : new int[] {0, 6, 14}) {
                Check.refused(Lines::busy, "setSlope(" + span + ", " + slope + ")", ARGUMENT, x -> x.setSlope(span, slope));
            }
        }
    }

    private static void setSlopeOfNoSpanTooSteep() {
        for (int span : outside(0, 14)) {
            Check.refused(Lines::busy, "setSlope(" + span + ", 4)", INDEX, x -> x.setSlope(span, 4));
            Check.refused(Lines::busy, "setSlope(" + span + ", -4)", INDEX, x -> x.setSlope(span, -4));
        }
    }

    private static void cutAtNoPole() {
        for (int poles : new int[] {3, 8, 16}) {
            for (int pole : outside(0, poles - 1)) {
                Check.refused(used(poles), "cut(" + pole + ") of " + poles, INDEX, x -> x.cut(pole));
            }
        }
    }

    private static void cutAtAnEnd() {
        for (int poles : new int[] {3, 8, 16}) {
            Check.refused(used(poles), "cut(0) of " + poles, STATE, x -> x.cut(0));
            Check.refused(used(poles), "cut, the last one of " + poles, STATE, x -> x.cut(poles - 1));
        }
        Check.refused(Lines::full, "cut(0) where all is cut", STATE, x -> x.cut(0));
        Check.refused(Lines::full, "cut(15) where all is cut", STATE, x -> x.cut(15));
    }

    private static void cutTwice() {
        for (int pole : new int[] {1, 5, 10, 14}) {
            Check.refused(Lines::busy, "cut(" + pole + ") again", STATE, x -> x.cut(pole));
        }
        for (int pole = 1; pole < 15; pole++) {
            int again = pole;
            Check.refused(Lines::full, "cut(" + again + ") where all is cut", STATE, x -> x.cut(again));
        }
    }

    private static void setBoundOfNoSection() {
        for (int section : outside(0, 0)) {
            Check.refused(used(16), "setBound(" + section + ", 1) of one section", INDEX, x -> x.setBound(section, 1));
        }
        for (int section : outside(0, 4)) {
            Check.refused(Lines::busy, "setBound(" + section + ", 60) of five", INDEX, x -> x.setBound(section, 60));
        }
        for (int section : outside(0, 14)) {
            Check.refused(Lines::full, "setBound(" + section + ", 20) of 15", INDEX, x -> x.setBound(section, 20));
        }
    }

    private static void setBoundOutside() {
        for (int bound : outside(1, 60)) {
            for (int section : new int[] {0, 3, 4}) {
                Check.refused(Lines::busy, "setBound(" + section + ", " + bound + ")", ARGUMENT, x -> x.setBound(section, bound));
            }
        }
    }

    private static void setBoundOfNoSectionOutside() {
        for (int section : outside(0, 4)) {
            Check.refused(Lines::busy, "setBound(" + section + ", 0)", INDEX, x -> x.setBound(section, 0));
            Check.refused(Lines::busy, "setBound(" + section + ", 61)", INDEX, x -> x.setBound(section, 61));
        }
    }

    private static void depotAtNoPole() {
        for (int poles : new int[] {3, 8, 16}) {
            for (int pole : outside(0, poles - 1)) {
                Check.refused(used(poles), "depot(" + pole + ", 1) of " + poles, INDEX, x -> x.depot(pole, 1));
                Check.refused(used(poles), "depot(" + pole + ", 0) of " + poles, INDEX, x -> x.depot(pole, 0));
            }
        }
    }

    private static void depotOfWrongSpares() {
        for (int spares : outside(0, 9)) {
            // Pole 2 has no depot, pole 0 one without a spare, pole 7 one with some.
            for (int pole : new int[] {2, 0, 7}) {
                Check.refused(Lines::busy, "depot(" + pole + ", " + spares + ")", ARGUMENT, x -> x.depot(pole, spares));
            }
        }
    }

    private static void depotTooFull() {
        for (int spares = 1; spares <= 9; spares++) {
            int more = spares;
            Check.refused(Lines::busy, "depot(15, " + more + ") with 9", STATE, x -> x.depot(15, more));
            Lines.Maker made = () -> {
                TramRibbon x = Lines.withPoles(3);
                x.depot(2, 10 - more);
                return x;
            };
            Check.refused(made, "depot(2, " + more + "), of 10 the last", STATE, x -> x.depot(2, more));
        }
    }

    private static void depotInOrder() {
        for (int pole : outside(0, 15)) {
            Check.refused(Lines::busy, "depot(" + pole + ", -1)", INDEX, x -> x.depot(pole, -1));
            Check.refused(Lines::busy, "depot(" + pole + ", 10)", INDEX, x -> x.depot(pole, 10));
        }
        // Of 10 spares and of more there would be more than 9 at any pole.
        for (int spares : new int[] {10, 11, Integer.MAX_VALUE}) {
            Check.refused(Lines::busy, "depot(15, " + spares + ") with 9", ARGUMENT, x -> x.depot(15, spares));
            Check.refused(Lines::busy, "depot(2, " + spares + ") with none", ARGUMENT, x -> x.depot(2, spares));
        }
    }

    private static void comeToNoPole() {
        for (int poles : new int[] {3, 8, 16}) {
            for (int pole : outside(0, poles - 1)) {
                Check.refused(used(poles), "come(" + pole + ", 1) of " + poles, INDEX, x -> x.come(pole, 1));
                Check.refused(used(poles), "come(" + pole + ", 99) of " + poles, INDEX, x -> x.come(pole, 99));
            }
        }
    }

    private static void comeOutside() {
        for (int people : outside(1, 99)) {
            // At pole 0 wait 99, at pole 3 some, at pole 12 nobody but who came with the tick 0.
            for (int pole : new int[] {0, 3, 12}) {
                Check.refused(Lines::busy, "come(" + pole + ", " + people + ")", ARGUMENT, x -> x.come(pole, people));
            }
        }
    }

    private static void comeToNoPoleOutside() {
        for (int pole : outside(0, 15)) {
            Check.refused(Lines::busy, "come(" + pole + ", 0)", INDEX, x -> x.come(pole, 0));
            Check.refused(Lines::busy, "come(" + pole + ", 100)", INDEX, x -> x.come(pole, 100));
        }
    }

    private static void putAtNoPole() {
        for (int poles : new int[] {3, 8, 16}) {
            for (int pole : outside(0, poles - 1)) {
                Check.refused(used(poles), "put(" + pole + ", true, 0) of " + poles, INDEX, x -> x.put(pole, true, 0));
                Check.refused(used(poles), "put(" + pole + ", false, 99) of " + poles, INDEX, x -> x.put(pole, false, 99));
            }
        }
    }

    private static void putOutside() {
        for (int wear : outside(0, 99)) {
            Check.refused(Lines::busy, "put(12, true, " + wear + ")", ARGUMENT, x -> x.put(12, true, wear));
            Check.refused(Lines::busy, "put(0, false, " + wear + ")", ARGUMENT, x -> x.put(0, false, wear));
        }
    }

    private static void putASeventh() {
        for (int pole : new int[] {0, 12, 15}) {
            Check.refused(Lines::crowded, "put(" + pole + ", true, 0), a seventh", STATE, x -> x.put(pole, true, 0));
            Check.refused(Lines::crowded, "put(" + pole + ", false, 99), a seventh", STATE, x -> x.put(pole, false, 99));
        }
    }

    private static void putAThird() {
        for (int pole : new int[] {0, 1, 2}) {
            Lines.Maker two = () -> {
                TramRibbon x = Lines.withPoles(3);
                x.put(pole, true, 0);
                x.put(pole, false, 0);
                return x;
            };
            Check.refused(two, "put(" + pole + ", true, 0), a third", STATE, x -> x.put(pole, true, 0));
            Check.refused(two, "put(" + pole + ", false, 99), a third", STATE, x -> x.put(pole, false, 99));
        }
        Check.refused(() -> Lines.withPusher(0), "put(2, true, 0) to a broken car and its pusher", STATE, x -> x.put(2, true, 0));
    }

    private static void putInOrder() {
        for (int pole : outside(0, 15)) {
            Check.refused(Lines::busy, "put(" + pole + ", true, -1)", INDEX, x -> x.put(pole, true, -1));
            Check.refused(Lines::busy, "put(" + pole + ", true, 100)", INDEX, x -> x.put(pole, true, 100));
            Check.refused(Lines::crowded, "put(" + pole + ", true, 0), a seventh", INDEX, x -> x.put(pole, true, 0));
            Check.refused(Lines::crowded, "put(" + pole + ", true, 100), a seventh", INDEX, x -> x.put(pole, true, 100));
        }
        for (int wear : outside(0, 99)) {
            Check.refused(Lines::crowded, "put(12, true, " + wear + "), a seventh", ARGUMENT, x -> x.put(12, true, wear));
            Check.refused(() -> Lines.withPusher(0), "put(2, true, " + wear + "), a third", ARGUMENT, x -> x.put(2, true, wear));
            Check.refused(Lines::full, "put(0, true, " + wear + "), a seventh and a third", ARGUMENT, x -> x.put(0, true, wear));
        }
    }

    private static void poleOfNoPole() {
        for (int poles : new int[] {3, 8, 16}) {
            for (int pole : outside(0, poles - 1)) {
                for (int what : new int[] {0, 3, -1, 4}) {
                    Check.refused(used(poles), "pole(" + pole + ", " + what + ") of " + poles, INDEX, x -> x.pole(pole, what));
                }
            }
        }
    }

    private static void poleOfNothing() {
        for (int what : outside(0, 3)) {
            for (int pole : new int[] {0, 7, 15}) {
                Check.refused(Lines::busy, "pole(" + pole + ", " + what + ")", INDEX, x -> x.pole(pole, what));
            }
        }
    }

    private static void sectionOfNoSpan() {
        for (int poles : new int[] {3, 8, 16}) {
            for (int span : outside(0, poles - 2)) {
                Check.refused(used(poles), "sectionOf(" + span + ") of " + poles, INDEX, x -> x.sectionOf(span));
            }
        }
        Check.refused(Lines::full, "sectionOf(15) where all is cut", INDEX, x -> x.sectionOf(15));
    }

    private static void sectionOfNoSection() {
        for (int what : new int[] {0, 5, -1, 6}) {
            for (int section : outside(0, 0)) {
                Check.refused(used(16), "section(" + section + ", " + what + ") of one", INDEX, x -> x.section(section, what));
            }
            for (int section : outside(0, 4)) {
                Check.refused(Lines::busy, "section(" + section + ", " + what + ") of five", INDEX, x -> x.section(section, what));
            }
            for (int section : outside(0, 14)) {
                Check.refused(Lines::full, "section(" + section + ", " + what + ") of 15", INDEX, x -> x.section(section, what));
            }
        }
    }

    private static void sectionOfNothing() {
        for (int what : outside(0, 5)) {
            for (int section : new int[] {0, 2, 4}) {
                Check.refused(Lines::busy, "section(" + section + ", " + what + ")", INDEX, x -> x.section(section, what));
            }
        }
    }

    private static void carOfNoCar() {
        for (int what : new int[] {0, 7, -1, 8}) {
            for (int car : new int[] {0, 1, 5, -1, Integer.MIN_VALUE, Integer.MAX_VALUE}) {
                Check.refused(TramRibbon::new, "car(" + car + ", " + what + ") of none", INDEX, x -> x.car(car, what));
            }
            for (int car : outside(0, 0)) {
                Check.refused(used(8), "car(" + car + ", " + what + ") of one", INDEX, x -> x.car(car, what));
            }
            for (int car : outside(0, 4)) {
                Check.refused(Lines::busy, "car(" + car + ", " + what + ") of five", INDEX, x -> x.car(car, what));
            }
            for (int car : outside(0, 5)) {
                Check.refused(Lines::crowded, "car(" + car + ", " + what + ") of six", INDEX, x -> x.car(car, what));
            }
        }
    }

    private static void carOfNothing() {
        for (int what : outside(0, 7)) {
            for (int car : new int[] {0, 2, 5}) {
                Check.refused(Lines::crowded, "car(" + car + ", " + what + ")", INDEX, x -> x.car(car, what));
            }
        }
    }

    private static void passOutside() {
        for (int ticks : outside(1, 200)) {
            Check.refused(Lines::busy, "pass(" + ticks + ")", ARGUMENT, x -> x.pass(ticks));
        }
    }

    private static void countOfNothing() {
        for (int what : outside(0, 10)) {
            Check.refused(Lines::busy, "count(" + what + ")", INDEX, x -> x.count(what));
        }
    }

    private static void nextAtNoPole() {
        for (int poles : new int[] {3, 8, 16}) {
            for (int pole : outside(0, poles - 1)) {
                Check.refused(used(poles), "next(" + pole + ") of " + poles, INDEX, x -> x.next(pole));
            }
        }
    }

    private static void needsOfNoSection() {
        for (int ticks : new int[] {1, 100}) {
            for (int section : outside(0, 0)) {
                Check.refused(used(16), "needs(" + section + ", " + ticks + ") of one", INDEX, x -> x.needs(section, ticks));
            }
            for (int section : outside(0, 14)) {
                Check.refused(Lines::full, "needs(" + section + ", " + ticks + ") of 15", INDEX, x -> x.needs(section, ticks));
            }
        }
    }

    private static void needsOutside() {
        for (int ticks : outside(1, 100)) {
            for (int section : new int[] {0, 4}) {
                Check.refused(Lines::busy, "needs(" + section + ", " + ticks + ")", ARGUMENT, x -> x.needs(section, ticks));
            }
        }
    }

    private static void needsOfNoSectionOutside() {
        for (int section : outside(0, 4)) {
            Check.refused(Lines::busy, "needs(" + section + ", 0)", INDEX, x -> x.needs(section, 0));
            Check.refused(Lines::busy, "needs(" + section + ", 101)", INDEX, x -> x.needs(section, 101));
        }
    }

    private static void adviseOutside() {
        for (int ticks : outside(1, 100)) {
            Check.refused(Lines::busy, "advise(" + ticks + ")", ARGUMENT, x -> x.advise(ticks));
        }
    }

    private static void foreseeOutside() {
        for (int ticks : outside(1, 150)) {
            for (int what : new int[] {0, 1, 2}) {
                Check.refused(Lines::busy, "foresee(" + ticks + ", " + what + ")", ARGUMENT, x -> x.foresee(ticks, what));
            }
        }
    }

    private static void foreseeOfNothing() {
        for (int what : outside(0, 2)) {
            for (int ticks : new int[] {1, 75, 150}) {
                Check.refused(Lines::busy, "foresee(" + ticks + ", " + what + ")", INDEX, x -> x.foresee(ticks, what));
            }
        }
    }

    private static void foreseeOutsideOfNothing() {
        for (int ticks : outside(1, 150)) {
            Check.refused(Lines::busy, "foresee(" + ticks + ", -1)", ARGUMENT, x -> x.foresee(ticks, -1));
            Check.refused(Lines::busy, "foresee(" + ticks + ", 3)", ARGUMENT, x -> x.foresee(ticks, 3));
        }
    }

    /** A new object has 8 poles, 7 spans, one section and no car. */
    private static void ofANewObject() {
        Lines.Maker made = TramRibbon::new;
        Check.refused(made, "setSlope(7, 0)", INDEX, x -> x.setSlope(7, 0));
        Check.refused(made, "setSlope(6, 4)", ARGUMENT, x -> x.setSlope(6, 4));
        Check.refused(made, "cut(8)", INDEX, x -> x.cut(8));
        Check.refused(made, "cut(7)", STATE, x -> x.cut(7));
        Check.refused(made, "setBound(1, 20)", INDEX, x -> x.setBound(1, 20));
        Check.refused(made, "setBound(0, 61)", ARGUMENT, x -> x.setBound(0, 61));
        Check.refused(made, "depot(8, 0)", INDEX, x -> x.depot(8, 0));
        Check.refused(made, "depot(7, 10)", ARGUMENT, x -> x.depot(7, 10));
        Check.refused(made, "come(8, 1)", INDEX, x -> x.come(8, 1));
        Check.refused(made, "come(7, 100)", ARGUMENT, x -> x.come(7, 100));
        Check.refused(made, "put(8, true, 0)", INDEX, x -> x.put(8, true, 0));
        Check.refused(made, "put(7, true, 100)", ARGUMENT, x -> x.put(7, true, 100));
        Check.refused(made, "pole(8, 0)", INDEX, x -> x.pole(8, 0));
        Check.refused(made, "sectionOf(7)", INDEX, x -> x.sectionOf(7));
        Check.refused(made, "section(1, 0)", INDEX, x -> x.section(1, 0));
        Check.refused(made, "car(0, 0)", INDEX, x -> x.car(0, 0));
        Check.refused(made, "pass(0)", ARGUMENT, x -> x.pass(0));
        Check.refused(made, "pass(201)", ARGUMENT, x -> x.pass(201));
        Check.refused(made, "count(11)", INDEX, x -> x.count(11));
        Check.refused(made, "next(8)", INDEX, x -> x.next(8));
        Check.refused(made, "needs(1, 1)", INDEX, x -> x.needs(1, 1));
        Check.refused(made, "needs(0, 101)", ARGUMENT, x -> x.needs(0, 101));
        Check.refused(made, "advise(101)", ARGUMENT, x -> x.advise(101));
        Check.refused(made, "foresee(151, 0)", ARGUMENT, x -> x.foresee(151, 0));
        Check.refused(made, "foresee(150, 3)", INDEX, x -> x.foresee(150, 3));
    }
}
