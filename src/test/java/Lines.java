/** Lines that several tests begin with. Made twice, each gives two objects in the same state. */
final class Lines {
    /** Makes a new object in a certain state. */
    interface Maker {
        TramRibbon make();
    }

    private Lines() {
    }

    static TramRibbon withPoles(int poles) {
        TramRibbon x = new TramRibbon();
        x.build(poles);
        return x;
    }

    /** Eight poles; car 0 broke at pole 2, going up, and car 1 pushes it since tick 1; it is tick 2. */
    static TramRibbon withPusher(int wear) {
        TramRibbon x = new TramRibbon();
        x.put(1, true, 97);
        x.pass(1);
        x.put(1, true, wear);
        x.pass(1);
        return x;
    }

    /**
     * 16 poles with something of everything: slopes, five sections, of which one is dead, depots
     * with 0, 2 and 9 spares, people, riders, a swap, and five cars, of which one is broken and pushed.
     */
    static TramRibbon busy() {
        TramRibbon x = withPoles(16);
        for (int span = 0; span < 15; span++) {
            x.setSlope(span, span % 7 - 3);
        }
        x.cut(5);
        x.cut(1);
        x.cut(14);
        x.cut(10);
        x.setBound(3, 1);
        x.setBound(1, 60);
        x.depot(0, 0);
        x.depot(7, 3);
        x.depot(15, 9);
        x.come(0, 99);
        x.come(3, 40);
        x.come(15, 12);
        x.put(1, true, 97);
        x.put(6, true, 98);
        x.put(11, false, 0);
        x.put(2, true, 5);
        x.pass(1);
        x.put(1, true, 7);
        x.pass(1);
        return x;
    }

    /** As busy(), with a sixth car. */
    static TramRibbon crowded() {
        TramRibbon x = busy();
        x.put(9, false, 50);
        return x;
    }

    /** 16 poles, each but the last with an insulator, 99 people and 9 spares, and two cars at 0, 1 and 15. */
    static TramRibbon full() {
        TramRibbon x = withPoles(16);
        for (int pole = 0; pole < 16; pole++) {
            x.depot(pole, 9);
            x.come(pole, 99);
        }
        for (int pole = 1; pole < 15; pole++) {
            x.cut(pole);
        }
        int[] places = {0, 0, 1, 1, 15, 15};
        for (int pole : places) {
            x.put(pole, pole < 15, 0);
        }
        return x;
    }
}
