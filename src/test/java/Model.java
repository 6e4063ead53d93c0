import java.util.ArrayList;
import java.util.List;

/**
 * The document once more, written from its words alone in the plainest form: whoever compares it
 * with TramRibbon finds where one of the two was written otherwise. Its calls throw what is due.
 */
final class Model {
    private static final class Pole {
        int people;
        boolean insulated;
        boolean hasDepot;
        int spares;
    }

    private static final class Section {
        int bound = 20;
        int dead;
        int becameDead;
        int seen;
        final List<Integer> spans = new ArrayList<>();
    }

    private static final class Car {
        int pole;
        int dir;
        int riders;
        int wear;
        boolean broken;
        Car pushing;
        int cameTo;
        boolean went;
    }

    private List<Pole> poles = new ArrayList<>();
    private int[] slopes;
    private List<Section> sections = new ArrayList<>();
    private final List<Car> cars = new ArrayList<>();
    private int tick;
    private int gotOn;
    private int swaps;

    Model() {
        lay(8);
    }

    private void lay(int n) {
        poles = new ArrayList<>();
        for (int k = 0; k < n; k++) {
            poles.add(new Pole());
        }
        slopes = new int[n - 1];
        sections = new ArrayList<>();
        Section whole = new Section();
        for (int k = 0; k + 1 < n; k++) {
            whole.spans.add(k);
        }
        sections.add(whole);
    }

    private Model copy() {
        Model m = new Model();
        m.poles = new ArrayList<>();
        for (Pole p : poles) {
            Pole q = new Pole();
            q.people = p.people;
            q.insulated = p.insulated;
            q.hasDepot = p.hasDepot;
            q.spares = p.spares;
            m.poles.add(q);
        }
        m.slopes = slopes.clone();
        m.sections = new ArrayList<>();
        for (Section s : sections) {
            Section t = new Section();
            t.bound = s.bound;
            t.dead = s.dead;
            t.becameDead = s.becameDead;
            t.spans.addAll(s.spans);
            m.sections.add(t);
        }
        for (Car c : cars) {
            Car e = new Car();
            e.pole = c.pole;
            e.dir = c.dir;
            e.riders = c.riders;
            e.wear = c.wear;
            e.broken = c.broken;
            e.cameTo = c.cameTo;
            m.cars.add(e);
        }
        for (int i = 0; i < cars.size(); i++) {
            if (cars.get(i).pushing != null) {
                m.cars.get(i).pushing = m.cars.get(cars.indexOf(cars.get(i).pushing));
            }
        }
        m.tick = tick;
        m.gotOn = gotOn;
        m.swaps = swaps;
        return m;
    }

    private void index(boolean fine) {
        if (!fine) throw new IndexOutOfBoundsException();
    }

    private void argument(boolean fine) {
        if (!fine) throw new IllegalArgumentException();
    }

    private void state(boolean fine) {
        if (!fine) throw new IllegalStateException();
    }

    private boolean isPole(int p) {
        return p >= 0 && p < poles.size();
    }

    private boolean isSpan(int s) {
        return s >= 0 && s < slopes.length;
    }

    private boolean isSection(int s) {
        return s >= 0 && s < sections.size();
    }

    private Section sectionWith(int span) {
        for (Section s : sections) {
            if (s.spans.contains(span)) return s;
        }
        throw new AssertionError("a span without a section");
    }

    private int spanAhead(Car c) {
        int span = c.dir > 0 ? c.pole : c.pole - 1;
        return isSpan(span) ? span : -1;
    }

    private int draw(Car c) {
        if (c.broken || spanAhead(c) < 0) return 0;
        int rise = slopes[spanAhead(c)] * c.dir;
        return 2 + c.riders / 10 + (rise > 0 ? rise : 0) + (c.pushing != null ? 3 : 0);
    }

    private int drawn(Section s) {
        int all = 0;
        for (Car c : cars) {
            if (s.spans.contains(spanAhead(c))) all += draw(c);
        }
        return all;
    }

    private int carsAt(int pole) {
        int n = 0;
        for (Car c : cars) {
            if (c.pole == pole) n++;
        }
        return n;
    }

    private boolean isPushed(Car b) {
        for (Car c : cars) {
            if (c.pushing == b) return true;
        }
        return false;
    }

    private void tickOn() {
        // 1
        for (Car c : cars) {
            if (!c.broken && (c.dir > 0 && c.pole == poles.size() - 1 || c.dir < 0 && c.pole == 0)) {
                c.dir = -c.dir;
                if (c.pushing != null) c.pushing.dir = c.dir;
            }
        }
        // 2
        for (Section s : sections) {
            s.seen = drawn(s);
            if (s.dead == 0 && s.seen > s.bound) {
                s.dead = 3;
                s.becameDead++;
            }
        }
        // 3
        for (Car c : cars) {
            c.went = false;
            if (c.broken) continue;
            int to = c.pole + c.dir;
            boolean live = sectionWith(spanAhead(c)).dead == 0;
            if (c.pushing == null) {
                if (live && carsAt(to) < 2) {
                    c.went = true;
                    c.pole = to;
                    c.cameTo++;
                }
            } else if (tick % 2 == 0 && live && carsAt(to) == 0) {
                c.went = true;
                c.pole = to;
                c.cameTo++;
                c.pushing.pole = to;
                c.pushing.cameTo++;
            }
        }
        // 4
        for (Car c : cars) {
            if (!c.went) continue;
            Pole here = poles.get(c.pole);
            c.riders -= c.riders / 2;
            while (c.riders < 30 && here.people > 0) {
                c.riders++;
                here.people--;
                gotOn++;
            }
            c.wear += 3;
            if (c.riders > 20) c.wear += 2;
            if (c.wear >= 100) {
                c.wear = 99;
                c.broken = true;
                c.pushing = null;
                here.people = Math.min(99, here.people + c.riders);
                c.riders = 0;
            }
        }
        // 5
        for (Car b : cars) {
            if (!b.broken) continue;
            Pole here = poles.get(b.pole);
            if (here.hasDepot && here.spares > 0) {
                here.spares--;
                swaps++;
                b.broken = false;
                b.wear = 0;
                for (Car c : cars) {
                    if (c.pushing == b) c.pushing = null;
                }
            } else if (!isPushed(b)) {
                for (Car c : cars) {
                    if (!c.broken && c.pushing == null && c.dir == b.dir && c.pole == b.pole) {
                        c.pushing = b;
                        break;
                    }
                }
            }
        }
        // 6
        for (int k = 0; k < poles.size(); k++) {
            if (tick % (k + 2) == 0) poles.get(k).people = Math.min(99, poles.get(k).people + 1);
        }
        for (Section s : sections) {
            if (s.dead > 0) s.dead--;
        }
        tick++;
    }

    private int after(int ticks) {
        int before = gotOn;
        for (int i = 0; i < ticks; i++) {
            tickOn();
        }
        return gotOn - before;
    }

    private void split(int pole) {
        poles.get(pole).insulated = true;
        Section old = sectionWith(pole);
        Section other = new Section();
        other.bound = old.bound;
        other.dead = old.dead;
        while (old.spans.get(old.spans.size() - 1) >= pole) {
            other.spans.add(0, old.spans.remove(old.spans.size() - 1));
        }
        sections.add(sections.indexOf(old) + 1, other);
    }

    int build(int n) {
        argument(n >= 3 && n <= 16);
        state(cars.isEmpty());
        int before = poles.size();
        lay(n);
        return before;
    }

    int setSlope(int span, int slope) {
        index(isSpan(span));
        argument(slope >= -3 && slope <= 3);
        int before = slopes[span];
        slopes[span] = slope;
        return before;
    }

    int cut(int pole) {
        index(isPole(pole));
        state(pole != 0 && pole != poles.size() - 1 && !poles.get(pole).insulated);
        split(pole);
        return sections.size();
    }

    int setBound(int section, int bound) {
        index(isSection(section));
        argument(bound >= 1 && bound <= 60);
        int before = sections.get(section).bound;
        sections.get(section).bound = bound;
        return before;
    }

    int depot(int pole, int spares) {
        index(isPole(pole));
        argument(spares >= 0 && spares <= 9);
        Pole p = poles.get(pole);
        state(p.spares + spares <= 9);
        p.hasDepot = true;
        p.spares += spares;
        return p.spares;
    }

    int come(int pole, int people) {
        index(isPole(pole));
        argument(people >= 1 && people <= 99);
        Pole p = poles.get(pole);
        p.people = Math.min(99, p.people + people);
        return p.people;
    }

    int put(int pole, boolean up, int wear) {
        index(isPole(pole));
        argument(wear >= 0 && wear <= 99);
        state(cars.size() < 6 && carsAt(pole) < 2);
        Car c = new Car();
        c.pole = pole;
        c.dir = up ? 1 : -1;
        c.wear = wear;
        cars.add(c);
        return cars.size() - 1;
    }

    int pole(int pole, int what) {
        index(isPole(pole) && what >= 0 && what <= 3);
        Pole p = poles.get(pole);
        int[] facts = {p.people, carsAt(pole), p.insulated ? 1 : 0, p.hasDepot ? p.spares : -1};
        return facts[what];
    }

    int sectionOf(int span) {
        index(isSpan(span));
        return sections.indexOf(sectionWith(span));
    }

    int section(int section, int what) {
        index(isSection(section) && what >= 0 && what <= 5);
        Section s = sections.get(section);
        int[] facts = {s.spans.get(0), s.spans.size(), s.bound, s.dead, drawn(s), s.becameDead};
        return facts[what];
    }

    int car(int car, int what) {
        index(car >= 0 && car < cars.size() && what >= 0 && what <= 7);
        Car c = cars.get(car);
        int pushes = c.pushing == null ? -1 : cars.indexOf(c.pushing);
        int[] facts = {c.pole, c.dir > 0 ? 1 : 0, c.riders, c.wear, c.broken ? 1 : 0, pushes, draw(c), c.cameTo};
        return facts[what];
    }

    int pass(int ticks) {
        argument(ticks >= 1 && ticks <= 200);
        return after(ticks);
    }

    int count(int what) {
        index(what >= 0 && what <= 10);
        int dead = 0;
        for (Section s : sections) dead += s.dead > 0 ? 1 : 0;
        int people = 0;
        int spares = 0;
        for (Pole p : poles) {
            people += p.people;
            spares += p.spares;
        }
        int riders = 0;
        int broken = 0;
        for (Car c : cars) {
            riders += c.riders;
            broken += c.broken ? 1 : 0;
        }
        int[] all = {tick, poles.size(), sections.size(), dead, cars.size(), broken, people, riders, gotOn, swaps, spares};
        return all[what];
    }

    int next(int pole) {
        index(isPole(pole));
        Model m = copy();
        for (int t = 1; t <= 150; t++) {
            m.tickOn();
            for (Car c : m.cars) {
                if (c.went && c.pole == pole) return t;
            }
        }
        return -1;
    }

    int needs(int section, int ticks) {
        index(isSection(section));
        argument(ticks >= 1 && ticks <= 100);
        Model m = copy();
        int most = 0;
        for (int t = 0; t < ticks; t++) {
            m.tickOn();
            most = Math.max(most, m.sections.get(section).seen);
        }
        return most;
    }

    int advise(int ticks) {
        argument(ticks >= 1 && ticks <= 100);
        int least = copy().after(ticks);
        int best = -1;
        for (int p = poles.size() - 2; p >= 1; p--) {
            if (poles.get(p).insulated) continue;
            Model m = copy();
            m.split(p);
            int got = m.after(ticks);
            if (got > least || best >= 0 && got == least) {
                least = got;
                best = p;
            }
        }
        return best;
    }

    int foresee(int ticks, int what) {
        argument(ticks >= 1 && ticks <= 150);
        index(what >= 0 && what <= 2);
        Model m = copy();
        int on = m.after(ticks);
        int[] all = {on, m.count(6), m.count(5)};
        return all[what];
    }

    double mean() {
        return (double) count(6) / poles.size();
    }

    long digest() {
        List<Integer> told = new ArrayList<>();
        for (int w = 0; w <= 10; w++) told.add(count(w));
        for (int p = 0; p < poles.size(); p++) {
            for (int w = 0; w <= 3; w++) told.add(pole(p, w));
        }
        for (int s = 0; s < slopes.length; s++) {
            told.add(slopes[s]);
            told.add(sectionOf(s));
        }
        for (int s = 0; s < sections.size(); s++) {
            for (int w = 0; w <= 5; w++) told.add(section(s, w));
        }
        for (int c = 0; c < cars.size(); c++) {
            for (int w = 0; w <= 7; w++) told.add(car(c, w));
        }
        long d = 809;
        for (int x : told) d = d * 31 + x;
        return d;
    }
}
