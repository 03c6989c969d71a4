import java.util.ArrayList;
import java.util.List;

/**
 * The document, read a second time and written down in another way: with objects, % on doubles and
 * Math.ceil, each would-be reckoned on a whole copy. RunsTest holds TideMill against it.
 */
final class Model {
    static final class Pair {
        float dull = 0f;
        Lot lot = null;
        int dressing = 0;
        int sparks = 0;
    }

    static final class Lot {
        int number;
        int owner;
        int grain;
        int weight;
        int dueDay;
        int state = 0;
        double left;
    }

    int tick = 0;
    int moon = 0;
    double surge = 0.0;
    double level = 0.0;
    float silt = 0f;
    int gates = 0;
    int sluice = 0;
    boolean isScourOpen = false;
    boolean isLocked = false;
    int from = 0;
    int to = 47;
    int refused = 0;
    int eels = 0;
    int purse = 0;
    double toll = 0.0;
    double lastForce = 0.0;
    final List<Pair> pairs = new ArrayList<>();
    final List<Lot> lots = new ArrayList<>();

    Model copy() {
        Model c = new Model();
        c.tick = tick;
        c.moon = moon;
        c.surge = surge;
        c.level = level;
        c.silt = silt;
        c.gates = gates;
        c.sluice = sluice;
        c.isScourOpen = isScourOpen;
        c.from = from;
        c.to = to;
        for (Lot lot : lots) {
            Lot l = new Lot();
            l.number = lot.number;
            l.grain = lot.grain;
            l.state = lot.state;
            l.left = lot.left;
            c.lots.add(l);
        }
        for (Pair pair : pairs) {
            Pair p = new Pair();
            p.dull = pair.dull;
            p.lot = pair.lot == null ? null : c.lots.get(pair.lot.number);
            p.dressing = pair.dressing;
            c.pairs.add(p);
        }
        return c;
    }

    static int age(int moon, int tick) {
        return (moon + tick / 48) % 30;
    }

    static int spring(int age) {
        int[] springs = {0, 1, 2, 3, 4, 5, 6, 7, 7, 6, 5, 4, 3, 2, 1};
        return springs[age % 15];
    }

    double seaOn(int when) {
        double range = 4.0 - 0.25 * spring(age(moon, when));
        double phase = when % 24.75;
        double risen;
        if (phase < 12.0) {
            risen = phase / 12.0;
        } else {
            risen = (24.75 - phase) / 12.75;
        }
        return surge + range * risen - range * 0.5;
    }

    boolean isAwake() {
        int hour = tick % 48;
        boolean isBehindFrom = hour >= from;
        boolean isAheadOfTo = hour <= to;
        return from <= to ? isBehindFrom && isAheadOfTo : isBehindFrom || isAheadOfTo;
    }

    void tick() {
        double sea = seaOn(tick);
        if (gates > 0 && sea > level) {
            double in = gates * (sea - level) * 0.5;
            level = level + in / (8.0 - (double) silt);
            silt = Math.min(4f, silt + (float) in / 64f);
        }
        double head = level - Math.max(sea, -0.5);
        double force = 0.0;
        if (sluice > 0 && head >= 0.5) {
            double out = sluice * head * 0.25;
            level = level - out / (8.0 - (double) silt);
            force = out * head;
        }
        lastForce = force;
        if (isScourOpen && level - sea >= 1.0) {
            level = level - 0.25;
            silt = Math.max(0f, silt - 0.125f);
        }
        for (Pair pair : pairs) {
            force = turn(pair, force);
        }
        int age = age(moon, tick);
        if (lastForce > 0.0 && age >= 13 && age <= 17 && (tick % 48 < 12 || tick % 48 > 35)) {
            eels += sluice;
        }
        tick = tick + 1;
    }

    private double turn(Pair pair, double force) {
        double rest = force;
        boolean wasFree = pair.lot == null && pair.dressing == 0;
        if (pair.dressing > 0) {
            pair.dressing = pair.dressing - 1;
            if (pair.dressing == 0) {
                pair.dull = 0f;
            }
        } else if (isAwake() && pair.lot != null) {
            double need = 1.0 + pair.dull;
            double gets = Math.min(need, rest);
            rest = rest - gets;
            double does = gets / need;
            Lot lot = pair.lot;
            lot.left = Math.max(0.0, lot.left - does * new double[] {4.0, 3.0, 5.0}[lot.grain]);
            pair.dull = Math.min(1f, pair.dull + (float) does * new float[] {1f, 2f, 1f}[lot.grain] / 64f);
            if (lot.left == 0.0) {
                lot.state = 2;
                pair.lot = null;
            }
        }
        if (isAwake() && wasFree && rest > 1.0) {
            pair.sparks = pair.sparks + 1;
            pair.dull = Math.min(1f, pair.dull + 0.125f);
            rest = rest - 1.0;
        }
        return rest;
    }

    int inState(int state) {
        return (int) lots.stream().filter(lot -> lot.state == state).count();
    }

    // ---- what is told; each answers as Answers.of() would of TideMill

    static void need(boolean isRight) {
        if (!isRight) {
            throw new IllegalArgumentException();
        }
    }

    static void allow(boolean isRight) {
        if (!isRight) {
            throw new IllegalStateException();
        }
    }

    static void find(boolean isThere) {
        if (!isThere) {
            throw new IndexOutOfBoundsException();
        }
    }

    int moon(int age) {
        need(age >= 0 && age <= 29);
        moon = age;
        return age(moon, tick);
    }

    double surge(int quarters) {
        need(quarters >= -8 && quarters <= 8);
        surge = quarters / 4.0;
        return seaOn(tick);
    }

    int gates(int told) {
        need(told >= 0 && told <= 3);
        allow(!isLocked);
        int before = gates;
        gates = told;
        return before;
    }

    int sluice(int told) {
        need(told >= 0 && told <= 4);
        int before = sluice;
        sluice = told;
        return before;
    }

    boolean scour(boolean isOpen) {
        boolean before = isScourOpen;
        isScourOpen = isOpen;
        return before;
    }

    boolean hours(int first, int last) {
        need(first >= 0 && first <= 47 && last >= 0 && last <= 47);
        from = first;
        to = last;
        return isAwake();
    }

    boolean lock(boolean is) {
        boolean before = isLocked;
        isLocked = is;
        return before;
    }

    int bell() {
        return ++refused;
    }

    int pair() {
        allow(pairs.size() < 3);
        pairs.add(new Pair());
        return pairs.size() - 1;
    }

    int lot(int owner, int grain, int weight, int days) {
        need(owner >= 0 && owner <= 3 && grain >= 0 && grain <= 2);
        need(weight >= 1 && weight <= 60 && days >= 0 && days <= 30);
        allow(lots.size() < 10);
        Lot lot = new Lot();
        lot.number = lots.size();
        lot.owner = owner;
        lot.grain = grain;
        lot.weight = weight;
        lot.dueDay = tick / 48 + days;
        lot.left = weight;
        lots.add(lot);
        return lot.number;
    }

    private Pair findPair(int pair) {
        find(pair >= 0 && pair < pairs.size());
        return pairs.get(pair);
    }

    private Lot findLot(int lot) {
        find(lot >= 0 && lot < lots.size());
        return lots.get(lot);
    }

    int feed(int pair, int lot) {
        Pair p = findPair(pair);
        Lot l = findLot(lot);
        allow(l.state == 0 && p.lot == null && p.dressing == 0);
        p.lot = l;
        l.state = 1;
        return inState(0);
    }

    int take(int pair) {
        Pair p = findPair(pair);
        allow(p.lot != null);
        Lot l = p.lot;
        l.state = 0;
        p.lot = null;
        return l.number;
    }

    int dress(int pair) {
        Pair p = findPair(pair);
        allow(p.lot == null && p.dressing == 0);
        p.dressing = 3 + (int) Math.ceil(8.0 * p.dull);
        return p.dressing;
    }

    int give(int lot) {
        Lot l = findLot(lot);
        allow(l.state == 2);
        l.state = 3;
        toll += l.weight / 16.0;
        int more = l.weight * (3 - l.grain) / 4;
        for (int day = l.dueDay; day < tick / 48; day++) {
            more--;
        }
        purse += more;
        return more;
    }

    int pass(int ticks) {
        need(ticks >= 1 && ticks <= 100);
        allow(tick + ticks <= 5000);
        for (int i = 0; i < ticks; i++) {
            tick();
        }
        return inState(2);
    }

    // ---- what is asked

    double sea(int ahead) {
        need(ahead >= 0 && ahead <= 1000);
        return seaOn(tick + ahead);
    }

    double pond(int what) {
        need(what >= 0 && what <= 5);
        double range = 4.0 - 0.25 * spring(age(moon, tick));
        return new double[] {level, silt, 8.0 - silt, lastForce, toll, range}[what];
    }

    int ofPair(int pair, int what) {
        Pair p = findPair(pair);
        need(what >= 0 && what <= 2);
        return new int[] {p.lot == null ? -1 : p.lot.number, p.dressing, p.sparks}[what];
    }

    double dull(int pair) {
        return findPair(pair).dull;
    }

    int ofLot(int lot, int what) {
        Lot l = findLot(lot);
        need(what >= 0 && what <= 5);
        int at = -1;
        for (int pair = 0; pair < pairs.size(); pair++) {
            if (pairs.get(pair).lot == l) {
                at = pair;
            }
        }
        return new int[] {l.owner, l.grain, l.weight, l.dueDay, l.state, at}[what];
    }

    double left(int lot) {
        return findLot(lot).left;
    }

    int many(int what) {
        need(what >= 0 && what <= 16);
        int age = age(moon, tick);
        int sparks = 0;
        for (Pair pair : pairs) {
            sparks += pair.sparks;
        }
        return new int[] {
            tick, tick / 48, age, spring(age), gates, sluice, pairs.size(), lots.size(),
            inState(0), inState(2), inState(3), eels, purse, sparks, isAwake() ? 1 : 0, refused, isLocked ? 1 : 0,
        }[what];
    }

    int ofOwner(int owner, boolean isAll) {
        find(owner >= 0 && owner <= 3);
        int sum = 0;
        for (Lot lot : lots) {
            if (lot.owner == owner && (isAll || lot.state != 3)) {
                sum += lot.weight;
            }
        }
        return sum;
    }

    // ---- what would be

    int high() {
        int ahead = 0;
        while ((tick + ahead) % 24.75 < 12.0 || (tick + ahead) % 24.75 >= 13.0) {
            ahead++;
        }
        return ahead;
    }

    double wouldLevel(int ticks) {
        need(ticks >= 1 && ticks <= 100);
        Model would = copy();
        for (int i = 0; i < ticks; i++) {
            would.tick();
        }
        return would.level;
    }

    int wouldDone(int lot) {
        findLot(lot);
        Model would = copy();
        for (int ticks = 0; ticks <= 300; ticks++) {
            if (would.lots.get(lot).state >= 2) {
                return ticks;
            }
            would.tick();
        }
        return -1;
    }

    int best(int ticks) {
        need(ticks >= 1 && ticks <= 48);
        int best = -1;
        double least = 0.0;
        for (int told = 0; told <= 4; told++) {
            Model would = copy();
            would.sluice = told;
            for (int i = 0; i < ticks; i++) {
                would.tick();
            }
            double sum = 0.0;
            for (Lot lot : would.lots) {
                sum += lot.left;
            }
            if (best < 0 || sum < least) {
                best = told;
                least = sum;
            }
        }
        return best;
    }
}
