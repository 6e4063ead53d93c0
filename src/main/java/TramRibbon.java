/** A ribbon of tram lines. The promises named here are those of the document, ../shared/DOC.md. */
public final class TramRibbon {
    private static final int MIN_POLES = 3;
    private static final int MAX_POLES = 16;
    private static final int FIRST_POLES = 8;
    private static final int MAX_SPANS = 15;
    private static final int MAX_SLOPE = 3;
    private static final int MAX_BOUND = 60;
    private static final int FIRST_BOUND = 20;
    private static final int DEAD_TICKS = 3;
    private static final int MAX_SPARES = 9;
    private static final int MAX_WAITING = 99;
    private static final int MAX_CARS = 6;
    private static final int MAX_CARS_AT_POLE = 2;
    private static final int MAX_RIDERS = 30;
    private static final int MANY_RIDERS = 20;
    private static final int MAX_WEAR = 99;
    private static final int MAX_PASS = 200;
    private static final int MAX_NEXT = 150;
    private static final int MAX_FORESEE = 150;
    private static final int MAX_TRIAL = 100;
    private static final int POLE_FACTS = 4;
    private static final int SECTION_FACTS = 6;
    private static final int CAR_FACTS = 8;
    private static final int TOTALS = 11;
    private static final int FORESIGHTS = 3;
    private static final int NONE = -1;

    private final Line line;
    /** Looking ahead runs on this copy, made once, so that no call makes objects. */
    private final Line trial;

    public TramRibbon() {
        line = new Line();
        trial = new Line();
    }

    // ---- the line

    public int build(int poles) throws IllegalArgumentException, IllegalStateException {
        if (outside(poles, MIN_POLES, MAX_POLES)) {
            throw new IllegalArgumentException("poles is not 3 to 16");
        }
        if (line.fleet.size > 0) {
            throw new IllegalStateException("there are cars");
        }
        int before = line.wire.poles;
        line.wire.lay(poles);
        line.stops.clear();
        return before;
    }

    public int setSlope(int span, int slope) throws IndexOutOfBoundsException, IllegalArgumentException {
        if (noSpan(span)) {
            throw new IndexOutOfBoundsException("there is no such span");
        }
        if (outside(slope, -MAX_SLOPE, MAX_SLOPE)) {
            throw new IllegalArgumentException("slope is not -3 to 3");
        }
        int before = line.wire.slope.at(span);
        line.wire.slope.set(span, slope);
        return before;
    }

    public int cut(int pole) throws IndexOutOfBoundsException, IllegalStateException {
        if (noPole(pole)) {
            throw new IndexOutOfBoundsException("there is no such pole");
        }
        if (!line.wire.canInsulate(pole)) {
            throw new IllegalStateException("it is the first or the last one, or there is an insulator");
        }
        line.wire.insulate(pole);
        return line.wire.sections;
    }

    public int setBound(int section, int bound) throws IndexOutOfBoundsException, IllegalArgumentException {
        if (noSection(section)) {
            throw new IndexOutOfBoundsException("there is no such section");
        }
        if (outside(bound, 1, MAX_BOUND)) {
            throw new IllegalArgumentException("bound is not 1 to 60");
        }
        int before = line.wire.bound.at(section);
        line.wire.bound.set(section, bound);
        return before;
    }

    public int depot(int pole, int spares)
            throws IndexOutOfBoundsException, IllegalArgumentException, IllegalStateException {
        if (noPole(pole)) {
            throw new IndexOutOfBoundsException("there is no such pole");
        }
        if (outside(spares, 0, MAX_SPARES)) {
            throw new IllegalArgumentException("spares is not 0 to 9");
        }
        int all = Math.max(0, line.stops.spares.at(pole)) + spares;
        if (all > MAX_SPARES) {
            throw new IllegalStateException("there would be more than 9");
        }
        line.stops.spares.set(pole, all);
        return all;
    }

    public int come(int pole, int people) throws IndexOutOfBoundsException, IllegalArgumentException {
        if (noPole(pole)) {
            throw new IndexOutOfBoundsException("there is no such pole");
        }
        if (outside(people, 1, MAX_WAITING)) {
            throw new IllegalArgumentException("people is not 1 to 99");
        }
        line.stops.welcome(pole, people);
        return line.stops.waiting.at(pole);
    }

    public int put(int pole, boolean up, int wear)
            throws IndexOutOfBoundsException, IllegalArgumentException, IllegalStateException {
        if (noPole(pole)) {
            throw new IndexOutOfBoundsException("there is no such pole");
        }
        if (outside(wear, 0, MAX_WEAR)) {
            throw new IllegalArgumentException("wear is not 0 to 99");
        }
        if (line.fleet.size >= MAX_CARS || line.fleet.carsAt(pole) >= MAX_CARS_AT_POLE) {
            throw new IllegalStateException("there are 6, or 2 at this pole");
        }
        return line.fleet.enter(pole, up, wear);
    }

    // ---- what is there

    public int pole(int pole, int what) throws IndexOutOfBoundsException {
        if (noPole(pole) || outside(what, 0, POLE_FACTS - 1)) {
            throw new IndexOutOfBoundsException("there is no such pole, or what is not 0 to 3");
        }
        return line.poleFact(pole, what);
    }

    public int sectionOf(int span) throws IndexOutOfBoundsException {
        if (noSpan(span)) {
            throw new IndexOutOfBoundsException("there is no such span");
        }
        return line.wire.sectionAt.at(span);
    }

    public int section(int section, int what) throws IndexOutOfBoundsException {
        if (noSection(section) || outside(what, 0, SECTION_FACTS - 1)) {
            throw new IndexOutOfBoundsException("there is no such section, or what is not 0 to 5");
        }
        return line.sectionFact(section, what);
    }

    public int car(int car, int what) throws IndexOutOfBoundsException {
        if (outside(car, 0, line.fleet.size - 1) || outside(what, 0, CAR_FACTS - 1)) {
            throw new IndexOutOfBoundsException("there is no such car, or what is not 0 to 7");
        }
        return line.carFact(car, what);
    }

    // ---- ticks

    public int pass(int ticks) throws IllegalArgumentException {
        if (outside(ticks, 1, MAX_PASS)) {
            throw new IllegalArgumentException("ticks is not 1 to 200");
        }
        return line.run(ticks);
    }

    public int count(int what) throws IndexOutOfBoundsException {
        if (outside(what, 0, TOTALS - 1)) {
            throw new IndexOutOfBoundsException("what is not 0 to 10");
        }
        return line.total(what);
    }

    // ---- looking ahead

    public int next(int pole) throws IndexOutOfBoundsException {
        if (noPole(pole)) {
            throw new IndexOutOfBoundsException("there is no such pole");
        }
        trial.copyFrom(line);
        for (int ticks = 1; ticks <= MAX_NEXT; ticks++) {
            trial.tickOnce();
            if (trial.fleet.hasComeTo(pole)) {
                return ticks;
            }
        }
        return NONE;
    }

    public int needs(int section, int ticks) throws IndexOutOfBoundsException, IllegalArgumentException {
        if (noSection(section)) {
            throw new IndexOutOfBoundsException("there is no such section");
        }
        if (outside(ticks, 1, MAX_TRIAL)) {
            throw new IllegalArgumentException("ticks is not 1 to 100");
        }
        trial.copyFrom(line);
        int most = 0;
        for (int t = 0; t < ticks; t++) {
            trial.tickOnce();
            most = Math.max(most, trial.wire.drawn.at(section));
        }
        return most;
    }

    public int advise(int ticks) throws IllegalArgumentException {
        if (outside(ticks, 1, MAX_TRIAL)) {
            throw new IllegalArgumentException("ticks is not 1 to 100");
        }
        trial.copyFrom(line);
        int most = trial.run(ticks);
        int best = NONE;
        for (int pole = 0; pole < line.wire.poles; pole++) {
            if (line.wire.canInsulate(pole)) {
                trial.copyFrom(line);
                trial.wire.insulate(pole);
                int boarded = trial.run(ticks);
                if (boarded > most) {
                    most = boarded;
                    best = pole;
                }
            }
        }
        return best;
    }

    public int foresee(int ticks, int what) throws IllegalArgumentException, IndexOutOfBoundsException {
        if (outside(ticks, 1, MAX_FORESEE)) {
            throw new IllegalArgumentException("ticks is not 1 to 150");
        }
        if (outside(what, 0, FORESIGHTS - 1)) {
            throw new IndexOutOfBoundsException("what is not 0 to 2");
        }
        trial.copyFrom(line);
        int boarded = trial.run(ticks);
        switch (what) {
            case 0: return boarded;
            case 1: return trial.stops.waiting.sum();
            default: return trial.fleet.broken.sum();
        }
    }

    public double mean() {
        int poles = line.wire.poles;
        return poles > 0 ? (double) line.stops.waiting.sum() / poles : 0.0;
    }

    public long digest() {
        long d = 809;
        for (int what = 0; what < TOTALS; what++) {
            d = d * 31 + line.total(what);
        }
        for (int i = 0; i < line.wire.poles * POLE_FACTS; i++) {
            d = d * 31 + line.poleFact(i / POLE_FACTS, i % POLE_FACTS);
        }
        for (int span = 0; span < line.wire.spans(); span++) {
            d = d * 31 + line.wire.slope.at(span);
            d = d * 31 + line.wire.sectionAt.at(span);
        }
        for (int i = 0; i < line.wire.sections * SECTION_FACTS; i++) {
            d = d * 31 + line.sectionFact(i / SECTION_FACTS, i % SECTION_FACTS);
        }
        for (int i = 0; i < line.fleet.size * CAR_FACTS; i++) {
            d = d * 31 + line.carFact(i / CAR_FACTS, i % CAR_FACTS);
        }
        return d;
    }

    private static boolean outside(int number, int least, int greatest) {
        return number < least || number > greatest;
    }

    private boolean noPole(int pole) {
        return outside(pole, 0, line.wire.poles - 1);
    }

    private boolean noSpan(int span) {
        return outside(span, 0, line.wire.spans() - 1);
    }

    private boolean noSection(int section) {
        return outside(section, 0, line.wire.sections - 1);
    }

    /**
     * Numbers by index. All arrays stand behind this class, so that every index is tested in one
     * place: a cell outside reads as 0, and nothing is written to it.
     */
    private static final class Row {
        private final int[] cells;

        Row(int length) {
            cells = new int[Math.max(0, length)];
        }

        int at(int index) {
            return index >= 0 && index < cells.length ? cells[index] : 0;
        }

        void set(int index, int number) {
            if (index >= 0 && index < cells.length) {
                cells[index] = number;
            }
        }

        void add(int index, int number) {
            if (index >= 0 && index < cells.length) {
                cells[index] += number;
            }
        }

        void fill(int number) {
            for (int i = 0; i < cells.length; i++) {
                cells[i] = number;
            }
        }

        int sum() {
            int all = 0;
            for (int cell : cells) {
                all += cell;
            }
            return all;
        }

        void copyFrom(Row other) {
            for (int i = 0; i < cells.length; i++) {
                cells[i] = other.at(i);
            }
        }
    }

    /** The spans between the poles, and the sections that the insulators cut them into. */
    private static final class Wire {
        int poles;
        int sections;
        final Row slope = new Row(MAX_SPANS);
        final Row sectionAt = new Row(MAX_SPANS);
        final Row insulator = new Row(MAX_POLES);
        final Row bound = new Row(MAX_SPANS);
        final Row dead = new Row(MAX_SPANS);
        final Row deaths = new Row(MAX_SPANS);
        /** What step 2 of the latest tick saw, since cars draw something else behind step 3. */
        final Row drawn = new Row(MAX_SPANS);

        void lay(int polesNow) {
            poles = polesNow;
            sections = 1;
            slope.fill(0);
            sectionAt.fill(0);
            insulator.fill(0);
            bound.fill(FIRST_BOUND);
            dead.fill(0);
            deaths.fill(0);
            drawn.fill(0);
        }

        int spans() {
            return poles - 1;
        }

        boolean canInsulate(int pole) {
            return pole > 0 && pole < poles - 1 && insulator.at(pole) == 0;
        }

        void insulate(int pole) {
            int first = sectionAt.at(pole);
            for (int s = sections; s > first; s--) {
                bound.set(s, bound.at(s - 1));
                dead.set(s, dead.at(s - 1));
                deaths.set(s, deaths.at(s - 1));
            }
            deaths.set(first + 1, 0);
            for (int span = pole; span < spans(); span++) {
                sectionAt.add(span, 1);
            }
            insulator.set(pole, 1);
            sections++;
        }

        int firstSpanOf(int section) {
            int span = 0;
            while (span < spans() && sectionAt.at(span) < section) {
                span++;
            }
            return span;
        }

        int deadSections() {
            int all = 0;
            for (int s = 0; s < sections; s++) {
                all += dead.at(s) > 0 ? 1 : 0;
            }
            return all;
        }

        void breakOverdrawn() {
            for (int s = 0; s < sections; s++) {
                if (dead.at(s) == 0 && drawn.at(s) > bound.at(s)) {
                    dead.set(s, DEAD_TICKS);
                    deaths.add(s, 1);
                }
            }
        }

        void recover() {
            for (int s = 0; s < sections; s++) {
                if (dead.at(s) > 0) {
                    dead.add(s, -1);
                }
            }
        }

        void copyFrom(Wire other) {
            poles = other.poles;
            sections = other.sections;
            slope.copyFrom(other.slope);
            sectionAt.copyFrom(other.sectionAt);
            insulator.copyFrom(other.insulator);
            bound.copyFrom(other.bound);
            dead.copyFrom(other.dead);
            deaths.copyFrom(other.deaths);
            drawn.copyFrom(other.drawn);
        }
    }

    /** What is at the poles: people who wait, and depots with their spares. */
    private static final class Stops {
        final Row waiting = new Row(MAX_POLES);
        /** NONE stands for no depot. */
        final Row spares = new Row(MAX_POLES);

        void clear() {
            waiting.fill(0);
            spares.fill(NONE);
        }

        void welcome(int pole, int people) {
            waiting.set(pole, Math.min(MAX_WAITING, waiting.at(pole) + people));
        }

        int allSpares() {
            int all = 0;
            for (int pole = 0; pole < MAX_POLES; pole++) {
                all += Math.max(0, spares.at(pole));
            }
            return all;
        }

        void copyFrom(Stops other) {
            waiting.copyFrom(other.waiting);
            spares.copyFrom(other.spares);
        }
    }

    /** The cars. Rows that say yes or no hold 1 or 0. */
    private static final class Fleet {
        int size;
        final Row place = new Row(MAX_CARS);
        final Row up = new Row(MAX_CARS);
        final Row riders = new Row(MAX_CARS);
        final Row wear = new Row(MAX_CARS);
        final Row broken = new Row(MAX_CARS);
        final Row pushed = new Row(MAX_CARS);
        final Row arrivals = new Row(MAX_CARS);
        /** Whether it went by itself in step 3 of the latest tick. */
        final Row went = new Row(MAX_CARS);

        int enter(int pole, boolean goesUp, int wornBy) {
            int car = size;
            place.set(car, pole);
            up.set(car, goesUp ? 1 : 0);
            wear.set(car, wornBy);
            pushed.set(car, NONE);
            size++;
            return car;
        }

        boolean runs(int car) {
            return broken.at(car) == 0;
        }

        boolean pushes(int car) {
            return pushed.at(car) != NONE;
        }

        int carsAt(int pole) {
            int all = 0;
            for (int c = 0; c < size; c++) {
                all += place.at(c) == pole ? 1 : 0;
            }
            return all;
        }

        boolean hasComeTo(int pole) {
            for (int c = 0; c < size; c++) {
                if (went.at(c) == 1 && place.at(c) == pole) {
                    return true;
                }
            }
            return false;
        }

        void turn(int car) {
            up.set(car, 1 - up.at(car));
            if (pushes(car)) {
                up.set(pushed.at(car), up.at(car));
            }
        }

        void moveTo(int car, int pole) {
            went.set(car, 1);
            arrive(car, pole);
            if (pushes(car)) {
                arrive(pushed.at(car), pole);
            }
        }

        private void arrive(int car, int pole) {
            place.set(car, pole);
            arrivals.add(car, 1);
        }

        boolean isPushed(int car) {
            for (int c = 0; c < size; c++) {
                if (pushed.at(c) == car) {
                    return true;
                }
            }
            return false;
        }

        void findPusherFor(int car) {
            for (int c = 0; c < size; c++) {
                boolean isFree = broken.at(c) == 0 && pushed.at(c) == NONE;
                if (isFree && up.at(c) == up.at(car) && place.at(c) == place.at(car)) {
                    pushed.set(c, car);
                    return;
                }
            }
        }

        void breakDown(int car) {
            broken.set(car, 1);
            wear.set(car, MAX_WEAR);
            riders.set(car, 0);
            pushed.set(car, NONE);
        }

        void renew(int car) {
            broken.set(car, 0);
            wear.set(car, 0);
            for (int c = 0; c < size; c++) {
                if (pushed.at(c) == car) {
                    pushed.set(c, NONE);
                }
            }
        }

        void copyFrom(Fleet other) {
            size = other.size;
            place.copyFrom(other.place);
            up.copyFrom(other.up);
            riders.copyFrom(other.riders);
            wear.copyFrom(other.wear);
            broken.copyFrom(other.broken);
            pushed.copyFrom(other.pushed);
            arrivals.copyFrom(other.arrivals);
            went.copyFrom(other.went);
        }
    }

    /** All that there is at a tick, and how a tick goes by. */
    private static final class Line {
        final Wire wire = new Wire();
        final Stops stops = new Stops();
        final Fleet fleet = new Fleet();
        private int tick;
        private int boarded;
        private int swaps;

        Line() {
            wire.lay(FIRST_POLES);
            stops.clear();
        }

        void copyFrom(Line other) {
            wire.copyFrom(other.wire);
            stops.copyFrom(other.stops);
            fleet.copyFrom(other.fleet);
            tick = other.tick;
            boarded = other.boarded;
            swaps = other.swaps;
        }

        /** Returns how many people got on. */
        int run(int ticks) {
            int before = boarded;
            for (int t = 0; t < ticks; t++) {
                tickOnce();
            }
            return boarded - before;
        }

        void tickOnce() {
            turnCars();
            drawCurrent();
            moveCars();
            serveStops();
            mendCars();
            closeTick();
        }

        private void turnCars() {
            for (int c = 0; c < fleet.size; c++) {
                if (fleet.runs(c) && spanAhead(c) == NONE) {
                    fleet.turn(c);
                }
            }
        }

        private void drawCurrent() {
            wire.drawn.fill(0);
            for (int c = 0; c < fleet.size; c++) {
                wire.drawn.add(sectionAhead(c), drawOf(c));
            }
            wire.breakOverdrawn();
        }

        private void moveCars() {
            fleet.went.fill(0);
            for (int c = 0; c < fleet.size; c++) {
                if (fleet.runs(c) && canGo(c)) {
                    fleet.moveTo(c, poleAhead(c));
                }
            }
        }

        private boolean canGo(int car) {
            int span = spanAhead(car);
            if (span == NONE || wire.dead.at(wire.sectionAt.at(span)) > 0) {
                return false;
            }
            int there = fleet.carsAt(poleAhead(car));
            if (fleet.pushes(car)) {
                return tick % 2 == 0 && there == 0;
            }
            return there < MAX_CARS_AT_POLE;
        }

        private void serveStops() {
            for (int c = 0; c < fleet.size; c++) {
                if (fleet.went.at(c) == 1) {
                    exchangeRiders(c);
                    wearOut(c);
                }
            }
        }

        private void exchangeRiders(int car) {
            int pole = fleet.place.at(car);
            int staying = fleet.riders.at(car) - fleet.riders.at(car) / 2;
            int newOnes = Math.min(stops.waiting.at(pole), MAX_RIDERS - staying);
            stops.waiting.add(pole, -newOnes);
            fleet.riders.set(car, staying + newOnes);
            boarded += newOnes;
        }

        private void wearOut(int car) {
            fleet.wear.add(car, fleet.riders.at(car) > MANY_RIDERS ? 5 : 3);
            if (fleet.wear.at(car) > MAX_WEAR) {
                stops.welcome(fleet.place.at(car), fleet.riders.at(car));
                fleet.breakDown(car);
            }
        }

        private void mendCars() {
            for (int c = 0; c < fleet.size; c++) {
                if (!fleet.runs(c)) {
                    mend(c);
                }
            }
        }

        private void mend(int car) {
            int pole = fleet.place.at(car);
            if (stops.spares.at(pole) > 0) {
                stops.spares.add(pole, -1);
                fleet.renew(car);
                swaps++;
            } else if (!fleet.isPushed(car)) {
                fleet.findPusherFor(car);
            }
        }

        private void closeTick() {
            for (int pole = 0; pole < wire.poles; pole++) {
                if (tick % (pole + 2) == 0) {
                    stops.welcome(pole, 1);
                }
            }
            wire.recover();
            tick++;
        }

        private int spanAhead(int car) {
            int span = fleet.up.at(car) == 1 ? fleet.place.at(car) : fleet.place.at(car) - 1;
            return outside(span, 0, wire.spans() - 1) ? NONE : span;
        }

        private int sectionAhead(int car) {
            int span = spanAhead(car);
            return span == NONE ? NONE : wire.sectionAt.at(span);
        }

        private int poleAhead(int car) {
            return fleet.place.at(car) + (fleet.up.at(car) == 1 ? 1 : -1);
        }

        private int drawOf(int car) {
            int span = spanAhead(car);
            if (span == NONE || !fleet.runs(car)) {
                return 0;
            }
            int slope = wire.slope.at(span);
            int rise = Math.max(0, fleet.up.at(car) == 1 ? slope : -slope);
            return 2 + fleet.riders.at(car) / 10 + rise + (fleet.pushes(car) ? 3 : 0);
        }

        private int drawnFrom(int section) {
            int all = 0;
            for (int c = 0; c < fleet.size; c++) {
                all += sectionAhead(c) == section ? drawOf(c) : 0;
            }
            return all;
        }

        int poleFact(int pole, int what) {
            switch (what) {
                case 0: return stops.waiting.at(pole);
                case 1: return fleet.carsAt(pole);
                case 2: return wire.insulator.at(pole);
                default: return stops.spares.at(pole);
            }
        }

        int sectionFact(int section, int what) {
            switch (what) {
                case 0: return wire.firstSpanOf(section);
                case 1: return wire.firstSpanOf(section + 1) - wire.firstSpanOf(section);
                case 2: return wire.bound.at(section);
                case 3: return wire.dead.at(section);
                case 4: return drawnFrom(section);
                default: return wire.deaths.at(section);
            }
        }

        int carFact(int car, int what) {
            switch (what) {
                case 0: return fleet.place.at(car);
                case 1: return fleet.up.at(car);
                case 2: return fleet.riders.at(car);
                case 3: return fleet.wear.at(car);
                case 4: return fleet.broken.at(car);
                case 5: return fleet.pushed.at(car);
                case 6: return drawOf(car);
                default: return fleet.arrivals.at(car);
            }
        }

        int total(int what) {
            switch (what) {
                case 0: return tick;
                case 1: return wire.poles;
                case 2: return wire.sections;
                case 3: return wire.deadSections();
                case 4: return fleet.size;
                case 5: return fleet.broken.sum();
                case 6: return stops.waiting.sum();
                case 7: return fleet.riders.sum();
                case 8: return boarded;
                case 9: return swaps;
                default: return stops.allSpares();
            }
        }
    }
}
