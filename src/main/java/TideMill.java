/**
 * A mill that grinds by the tide.
 *
 * The words in capitals, here and below, are those of the document (DOC.md).
 */
public final class TideMill {
    private static final int NONE = -1;

    private static final int DAY_TICKS = 48;
    private static final int MOON_DAYS = 30;
    private static final int LAST_TICK = 5000;
    private static final int MOST_TOLD_AHEAD = 1000;
    private static final int MOST_TICKS = 100;
    private static final int MOST_TICKS_BEST = 48;
    private static final int MOST_TICKS_DONE = 300;

    private static final int MOST_GATES = 3;
    private static final int MOST_SLUICE = 4;
    private static final int MOST_SURGE = 8;

    private static final int MOST_PAIRS = 3;
    private static final int MOST_LOTS = 10;
    private static final int OWNERS = 4;
    private static final int MOST_WEIGHT = 60;
    private static final int MOST_DUE_DAYS = 30;

    private static final int WHEAT = 0;
    private static final int RYE = 1;
    private static final int OATS = 2;

    private static final int WAITS = 0;
    private static final int AT_PAIR = 1;
    private static final int DONE = 2;
    private static final int GIVEN = 3;

    private static final int LAST_OF_POND = 5;
    private static final int LAST_OF_PAIR = 2;
    private static final int LAST_OF_LOT = 5;
    private static final int LAST_OF_MANY = 16;

    private static final long DIGEST_START = 58306;
    private static final int DIGEST_BEST_TICKS = 24;

    private final Mill mill = new Mill();
    // What would be is tried out on this one; it is made once, so that no question makes objects.
    private final Mill trial = new Mill();
    private boolean isLocked;
    private int refused;
    private int purse;
    private double toll;

    public TideMill() {
    }

    // ---- what is told

    public int moon(int age) throws IllegalArgumentException {
        if (!isWithin(age, 0, MOON_DAYS - 1)) {
            throw new IllegalArgumentException("age is not 0 to 29");
        }
        mill.sea.moon = age;
        return mill.sea.ageOn(mill.sea.tick);
    }

    public double surge(int quarters) throws IllegalArgumentException {
        if (!isWithin(quarters, -MOST_SURGE, MOST_SURGE)) {
            throw new IllegalArgumentException("quarters is not -8 to 8");
        }
        mill.sea.surge = quarters * 0.25;
        return mill.sea.heightOn(mill.sea.tick);
    }

    public int gates(int gates) throws IllegalArgumentException, IllegalStateException {
        if (!isWithin(gates, 0, MOST_GATES)) {
            throw new IllegalArgumentException("gates is not 0 to 3");
        }
        if (isLocked) {
            throw new IllegalStateException("the gatehouse is locked");
        }
        int before = mill.pond.gates;
        mill.pond.gates = gates;
        return before;
    }

    public int sluice(int sluice) throws IllegalArgumentException {
        if (!isWithin(sluice, 0, MOST_SLUICE)) {
            throw new IllegalArgumentException("sluice is not 0 to 4");
        }
        int before = mill.pond.sluice;
        mill.pond.sluice = sluice;
        return before;
    }

    public boolean scour(boolean isOpen) {
        boolean before = mill.pond.isScourOpen;
        mill.pond.isScourOpen = isOpen;
        return before;
    }

    public boolean hours(int from, int to) throws IllegalArgumentException {
        if (!isWithin(from, 0, DAY_TICKS - 1) || !isWithin(to, 0, DAY_TICKS - 1)) {
            throw new IllegalArgumentException("from or to is not 0 to 47");
        }
        mill.firstHour = from;
        mill.lastHour = to;
        return mill.isAwake();
    }

    public boolean lock(boolean is) {
        boolean before = isLocked;
        isLocked = is;
        return before;
    }

    public int bell() {
        refused++;
        return refused;
    }

    // ---- stones and lots

    public int pair() throws IllegalStateException {
        if (mill.pairs.count >= MOST_PAIRS) {
            throw new IllegalStateException("there are 3 pairs");
        }
        return mill.pairs.lay();
    }

    public int lot(int owner, int grain, int weight, int days)
            throws IllegalArgumentException, IllegalStateException {
        if (!isWithin(owner, 0, OWNERS - 1) || !isWithin(grain, WHEAT, OATS)
                || !isWithin(weight, 1, MOST_WEIGHT) || !isWithin(days, 0, MOST_DUE_DAYS)) {
            throw new IllegalArgumentException("owner, grain, weight or days is out of its range");
        }
        if (mill.lots.count >= MOST_LOTS) {
            throw new IllegalStateException("there are 10 lots");
        }
        return mill.lots.bring(owner, grain, weight, mill.sea.today() + days);
    }

    public int feed(int pair, int lot) throws IndexOutOfBoundsException, IllegalStateException {
        if (!mill.pairs.has(pair) || !mill.lots.has(lot)) {
            throw new IndexOutOfBoundsException("there is no such pair, or lot");
        }
        if (mill.lots.state[lot] != WAITS || !mill.pairs.isFree(pair)) {
            throw new IllegalStateException("the lot does not wait, or the pair is not free");
        }
        mill.pairs.lot[pair] = lot;
        mill.lots.state[lot] = AT_PAIR;
        return mill.lots.countOf(WAITS);
    }

    public int take(int pair) throws IndexOutOfBoundsException, IllegalStateException {
        if (!mill.pairs.has(pair)) {
            throw new IndexOutOfBoundsException("there is no such pair");
        }
        int taken = mill.pairs.lot[pair];
        if (!mill.lots.has(taken)) {
            throw new IllegalStateException("the pair has no lot");
        }
        mill.pairs.lot[pair] = NONE;
        mill.lots.state[taken] = WAITS;
        return taken;
    }

    public int dress(int pair) throws IndexOutOfBoundsException, IllegalStateException {
        if (!mill.pairs.has(pair)) {
            throw new IndexOutOfBoundsException("there is no such pair");
        }
        if (!mill.pairs.isFree(pair)) {
            throw new IllegalStateException("the pair has a lot, or a dressing");
        }
        mill.pairs.dressing[pair] = 3 + roundedUp(8.0 * (double) mill.pairs.dull[pair]);
        return mill.pairs.dressing[pair];
    }

    public int give(int lot) throws IndexOutOfBoundsException, IllegalStateException {
        if (!mill.lots.has(lot)) {
            throw new IndexOutOfBoundsException("there is no such lot");
        }
        if (mill.lots.state[lot] != DONE) {
            throw new IllegalStateException("the lot is not done");
        }
        int weight = mill.lots.weight[lot];
        int daysLate = Math.max(0, mill.sea.today() - mill.lots.dueDay[lot]);
        int gain = weight * priceOf(mill.lots.grain[lot]) / 4 - daysLate;
        mill.lots.state[lot] = GIVEN;
        toll += weight / 16.0;
        purse += gain;
        return gain;
    }

    public int pass(int ticks) throws IllegalArgumentException, IllegalStateException {
        if (!isWithin(ticks, 1, MOST_TICKS)) {
            throw new IllegalArgumentException("ticks is not 1 to 100");
        }
        if (mill.sea.tick + ticks > LAST_TICK) {
            throw new IllegalStateException("the tick would be above 5000");
        }
        mill.letGoBy(ticks);
        return mill.lots.countOf(DONE);
    }

    // ---- what is asked

    public double sea(int ahead) throws IllegalArgumentException {
        if (!isWithin(ahead, 0, MOST_TOLD_AHEAD)) {
            throw new IllegalArgumentException("ahead is not 0 to 1000");
        }
        return mill.sea.heightOn(mill.sea.tick + ahead);
    }

    public double pond(int what) throws IllegalArgumentException {
        if (!isWithin(what, 0, LAST_OF_POND)) {
            throw new IllegalArgumentException("what is not 0 to 5");
        }
        return pondAnswer(what);
    }

    public int ofPair(int pair, int what) throws IndexOutOfBoundsException, IllegalArgumentException {
        if (!mill.pairs.has(pair)) {
            throw new IndexOutOfBoundsException("there is no such pair");
        }
        if (!isWithin(what, 0, LAST_OF_PAIR)) {
            throw new IllegalArgumentException("what is not 0 to 2");
        }
        return pairAnswer(pair, what);
    }

    public double dull(int pair) throws IndexOutOfBoundsException {
        if (!mill.pairs.has(pair)) {
            throw new IndexOutOfBoundsException("there is no such pair");
        }
        return (double) mill.pairs.dull[pair];
    }

    public int ofLot(int lot, int what) throws IndexOutOfBoundsException, IllegalArgumentException {
        if (!mill.lots.has(lot)) {
            throw new IndexOutOfBoundsException("there is no such lot");
        }
        if (!isWithin(what, 0, LAST_OF_LOT)) {
            throw new IllegalArgumentException("what is not 0 to 5");
        }
        return lotAnswer(lot, what);
    }

    public double left(int lot) throws IndexOutOfBoundsException {
        if (!mill.lots.has(lot)) {
            throw new IndexOutOfBoundsException("there is no such lot");
        }
        return mill.lots.left[lot];
    }

    public int many(int what) throws IllegalArgumentException {
        if (!isWithin(what, 0, LAST_OF_MANY)) {
            throw new IllegalArgumentException("what is not 0 to 16");
        }
        return manyAnswer(what);
    }

    public int ofOwner(int owner, boolean isAll) throws IndexOutOfBoundsException {
        if (!isWithin(owner, 0, OWNERS - 1)) {
            throw new IndexOutOfBoundsException("owner is not 0 to 3");
        }
        return mill.lots.weightOf(owner, isAll);
    }

    // ---- what would be (nothing is changed; also beyond TICK 5000)

    public int high() {
        return mill.sea.ticksToHigh();
    }

    public double wouldLevel(int ticks) throws IllegalArgumentException {
        if (!isWithin(ticks, 1, MOST_TICKS)) {
            throw new IllegalArgumentException("ticks is not 1 to 100");
        }
        trial.copyFrom(mill);
        trial.letGoBy(ticks);
        return trial.pond.level;
    }

    public int wouldDone(int lot) throws IndexOutOfBoundsException {
        if (!mill.lots.has(lot)) {
            throw new IndexOutOfBoundsException("there is no such lot");
        }
        return ticksToDone(lot);
    }

    public int best(int ticks) throws IllegalArgumentException {
        if (!isWithin(ticks, 1, MOST_TICKS_BEST)) {
            throw new IllegalArgumentException("ticks is not 1 to 48");
        }
        return bestSluice(ticks);
    }

    public long digest() {
        long sum = DIGEST_START;
        for (int what = 0; what <= LAST_OF_MANY; what++) {
            sum = joined(sum, manyAnswer(what));
        }
        sum = joined(sum, cutOf1024(pondAnswer(0)));
        sum = joined(sum, cutOf1024(pondAnswer(1)));
        sum = joined(sum, cutOf1024(pondAnswer(4)));
        for (int pair = 0; pair < mill.pairs.count; pair++) {
            sum = joinedPair(sum, pair);
        }
        for (int lot = 0; lot < mill.lots.count; lot++) {
            sum = joinedLot(sum, lot);
        }
        for (int owner = 0; owner < OWNERS; owner++) {
            sum = joined(sum, mill.lots.weightOf(owner, false));
        }
        sum = joined(sum, mill.sea.ticksToHigh());
        return joined(sum, bestSluice(DIGEST_BEST_TICKS));
    }

    // ---- the answers, for questions that are known to be right

    private double pondAnswer(int what) {
        switch (what) {
            case 0:
                return mill.pond.level;
            case 1:
                return (double) mill.pond.silt;
            case 2:
                return mill.pond.area();
            case 3:
                return mill.pond.force;
            case 4:
                return toll;
            default:
                return mill.sea.rangeOn(mill.sea.tick);
        }
    }

    private int pairAnswer(int pair, int what) {
        switch (what) {
            case 0:
                return mill.pairs.lot[pair];
            case 1:
                return mill.pairs.dressing[pair];
            default:
                return mill.pairs.sparks[pair];
        }
    }

    private int lotAnswer(int lot, int what) {
        switch (what) {
            case 0:
                return mill.lots.owner[lot];
            case 1:
                return mill.lots.grain[lot];
            case 2:
                return mill.lots.weight[lot];
            case 3:
                return mill.lots.dueDay[lot];
            case 4:
                return mill.lots.state[lot];
            default:
                return mill.pairs.withLot(lot);
        }
    }

    private int manyAnswer(int what) {
        switch (what) {
            case 0:
                return mill.sea.tick;
            case 1:
                return mill.sea.today();
            case 2:
                return mill.sea.ageOn(mill.sea.tick);
            case 3:
                return mill.sea.springOf(mill.sea.ageOn(mill.sea.tick));
            case 4:
                return mill.pond.gates;
            case 5:
                return mill.pond.sluice;
            case 6:
                return mill.pairs.count;
            case 7:
                return mill.lots.count;
            case 8:
                return mill.lots.countOf(WAITS);
            case 9:
                return mill.lots.countOf(DONE);
            case 10:
                return mill.lots.countOf(GIVEN);
            case 11:
                return mill.eels;
            case 12:
                return purse;
            case 13:
                return mill.pairs.allSparks();
            case 14:
                return mill.isAwake() ? 1 : 0;
            case 15:
                return refused;
            default:
                return isLocked ? 1 : 0;
        }
    }

    private int ticksToDone(int lot) {
        int state = mill.lots.state[lot];
        if (state == DONE || state == GIVEN) {
            return 0;
        }
        // Ticks alone never feed a pair, so a lot that waits goes on waiting.
        if (state == WAITS) {
            return NONE;
        }
        trial.copyFrom(mill);
        for (int ticks = 1; ticks <= MOST_TICKS_DONE; ticks++) {
            trial.goBy();
            if (trial.lots.state[lot] == DONE) {
                return ticks;
            }
        }
        return NONE;
    }

    private int bestSluice(int ticks) {
        int best = 0;
        double least = leftWith(0, ticks);
        for (int sluice = 1; sluice <= MOST_SLUICE; sluice++) {
            double left = leftWith(sluice, ticks);
            if (left < least) {
                best = sluice;
                least = left;
            }
        }
        return best;
    }

    private double leftWith(int sluice, int ticks) {
        trial.copyFrom(mill);
        trial.pond.sluice = sluice;
        for (int gone = 0; gone < ticks; gone++) {
            trial.goBy();
        }
        return trial.lots.allLeft();
    }

    // ---- the parts of the digest

    private long joinedPair(long sum, int pair) {
        long joint = sum;
        for (int what = 0; what <= LAST_OF_PAIR; what++) {
            joint = joined(joint, pairAnswer(pair, what));
        }
        return joined(joint, cutOf1024((double) mill.pairs.dull[pair]));
    }

    private long joinedLot(long sum, int lot) {
        long joint = sum;
        for (int what = 0; what <= LAST_OF_LOT; what++) {
            joint = joined(joint, lotAnswer(lot, what));
        }
        joint = joined(joint, cutOf1024(mill.lots.left[lot]));
        return joined(joint, ticksToDone(lot));
    }

    private static long joined(long sum, long value) {
        return sum * 31 + value;
    }

    private static long cutOf1024(double value) {
        return (long) (1024.0 * value);
    }

    // ---- small reckonings

    private static boolean isWithin(int value, int least, int most) {
        return value >= least && value <= most;
    }

    // For values of 0.0 or more: a cast cuts these down, and LANGUAGE.md leaves no ceil.
    private static int roundedUp(double value) {
        int cut = (int) value;
        return cut < value ? cut + 1 : cut;
    }

    private static double paceOf(int grain) {
        if (grain == WHEAT) {
            return 4.0;
        }
        return grain == RYE ? 3.0 : 5.0;
    }

    private static float hardnessOf(int grain) {
        return grain == RYE ? 2f : 1f;
    }

    private static int priceOf(int grain) {
        if (grain == WHEAT) {
            return 3;
        }
        return grain == RYE ? 2 : 1;
    }

    /** The TICK, the MOON, and how high the SEA is on any TICK. */
    private static final class Sea {
        int tick;
        int moon;
        double surge;

        void copyFrom(Sea other) {
            tick = other.tick;
            moon = other.moon;
            surge = other.surge;
        }

        int today() {
            return tick / DAY_TICKS;
        }

        int hourNow() {
            return tick % DAY_TICKS;
        }

        int ageOn(int when) {
            return (moon + when / DAY_TICKS) % MOON_DAYS;
        }

        int springOf(int age) {
            int fromHalf = Math.abs(age - MOON_DAYS / 2);
            return Math.min(Math.min(age, MOON_DAYS - age), fromHalf);
        }

        double rangeOn(int when) {
            return 4.0 - 0.25 * springOf(ageOn(when));
        }

        // LANGUAGE.md leaves no % on doubles: in quarters the period of 24.75 is whole, and nothing is lost.
        double phaseOn(int when) {
            return when * 4 % 99 / 4.0;
        }

        double heightOn(int when) {
            double range = rangeOn(when);
            double phase = phaseOn(when);
            double risen = phase < 12.0 ? phase / 12.0 : (24.75 - phase) / 12.75;
            return surge + range * risen - range * 0.5;
        }

        int ticksToHigh() {
            // A span of 25 TICKS is longer than one tide, so the tide turns within it.
            for (int ahead = 0; ahead < 25; ahead++) {
                double phase = phaseOn(tick + ahead);
                if (phase >= 12.0 && phase < 13.0) {
                    return ahead;
                }
            }
            return NONE;
        }
    }

    /** The water behind the GATES, and the wheel that it turns. */
    private static final class Pond {
        double level;
        float silt;
        int gates;
        int sluice;
        boolean isScourOpen;
        double force;

        void copyFrom(Pond other) {
            level = other.level;
            silt = other.silt;
            gates = other.gates;
            sluice = other.sluice;
            isScourOpen = other.isScourOpen;
            force = other.force;
        }

        double area() {
            return 8.0 - (double) silt;
        }

        void goBy(double sea) {
            fill(sea);
            turnWheel(sea);
            scourOut(sea);
        }

        private void fill(double sea) {
            if (gates > 0 && sea > level) {
                double in = gates * (sea - level) * 0.5;
                level += in / area();
                float more = silt + (float) in / 64f;
                silt = more > 4f ? 4f : more;
            }
        }

        private void turnWheel(double sea) {
            double head = level - (sea > -0.5 ? sea : -0.5);
            force = 0.0;
            if (sluice > 0 && head >= 0.5) {
                double out = sluice * head * 0.25;
                level -= out / area();
                force = out * head;
            }
        }

        private void scourOut(double sea) {
            if (isScourOpen && level - sea >= 1.0) {
                level -= 0.25;
                float less = silt - 0.125f;
                silt = less < 0f ? 0f : less;
            }
        }
    }

    /** The LOTS: what is known of the one with number n stands at n in each row. */
    private static final class Lots {
        final int[] owner = new int[MOST_LOTS];
        final int[] grain = new int[MOST_LOTS];
        final int[] weight = new int[MOST_LOTS];
        final int[] dueDay = new int[MOST_LOTS];
        final int[] state = new int[MOST_LOTS];
        final double[] left = new double[MOST_LOTS];
        int count;

        void copyFrom(Lots other) {
            System.arraycopy(other.owner, 0, owner, 0, MOST_LOTS);
            System.arraycopy(other.grain, 0, grain, 0, MOST_LOTS);
            System.arraycopy(other.weight, 0, weight, 0, MOST_LOTS);
            System.arraycopy(other.dueDay, 0, dueDay, 0, MOST_LOTS);
            System.arraycopy(other.state, 0, state, 0, MOST_LOTS);
            System.arraycopy(other.left, 0, left, 0, MOST_LOTS);
            count = other.count;
        }

        boolean has(int lot) {
            return lot >= 0 && lot < count;
        }

        int bring(int anOwner, int aGrain, int aWeight, int aDay) {
            int lot = count;
            owner[lot] = anOwner;
            grain[lot] = aGrain;
            weight[lot] = aWeight;
            dueDay[lot] = aDay;
            state[lot] = WAITS;
            left[lot] = aWeight;
            count++;
            return lot;
        }

        void grind(int lot, double does) {
            double rest = left[lot] - does * paceOf(grain[lot]);
            left[lot] = rest < 0.0 ? 0.0 : rest;
            if (left[lot] == 0.0) {
                state[lot] = DONE;
            }
        }

        int countOf(int aState) {
            int found = 0;
            for (int lot = 0; lot < count; lot++) {
                if (state[lot] == aState) {
                    found++;
                }
            }
            return found;
        }

        int weightOf(int anOwner, boolean isAll) {
            int sum = 0;
            for (int lot = 0; lot < count; lot++) {
                if (owner[lot] == anOwner && (isAll || state[lot] != GIVEN)) {
                    sum += weight[lot];
                }
            }
            return sum;
        }

        double allLeft() {
            double sum = 0.0;
            for (int lot = 0; lot < count; lot++) {
                sum += left[lot];
            }
            return sum;
        }
    }

    /** The PAIRS of stones: what is known of the one with number n stands at n in each row. */
    private static final class Pairs {
        final float[] dull = new float[MOST_PAIRS];
        final int[] lot = new int[MOST_PAIRS];
        final int[] dressing = new int[MOST_PAIRS];
        final int[] sparks = new int[MOST_PAIRS];
        int count;

        void copyFrom(Pairs other) {
            System.arraycopy(other.dull, 0, dull, 0, MOST_PAIRS);
            System.arraycopy(other.lot, 0, lot, 0, MOST_PAIRS);
            System.arraycopy(other.dressing, 0, dressing, 0, MOST_PAIRS);
            System.arraycopy(other.sparks, 0, sparks, 0, MOST_PAIRS);
            count = other.count;
        }

        boolean has(int pair) {
            return pair >= 0 && pair < count;
        }

        boolean isFree(int pair) {
            return lot[pair] == NONE && dressing[pair] == 0;
        }

        int lay() {
            int pair = count;
            lot[pair] = NONE;
            count++;
            return pair;
        }

        int withLot(int aLot) {
            for (int pair = 0; pair < count; pair++) {
                if (lot[pair] == aLot) {
                    return pair;
                }
            }
            return NONE;
        }

        int allSparks() {
            int sum = 0;
            for (int pair = 0; pair < count; pair++) {
                sum += sparks[pair];
            }
            return sum;
        }

        void goBy(double force, boolean isAwake, Lots lots) {
            double rest = force;
            for (int pair = 0; pair < count; pair++) {
                if (dressing[pair] > 0) {
                    dressOn(pair);
                } else if (isAwake && lots.has(lot[pair])) {
                    rest -= grind(pair, rest, lots);
                } else if (isAwake && rest > 1.0) {
                    spark(pair);
                    rest -= 1.0;
                }
            }
        }

        private void dressOn(int pair) {
            dressing[pair]--;
            if (dressing[pair] == 0) {
                dull[pair] = 0f;
            }
        }

        private void spark(int pair) {
            sparks[pair]++;
            blunt(pair, 0.125f);
        }

        /** Returns how much of the FORCE the PAIR gets. */
        private double grind(int pair, double force, Lots lots) {
            int ground = lot[pair];
            double need = 1.0 + (double) dull[pair];
            double gets = need < force ? need : force;
            double does = gets / need;
            lots.grind(ground, does);
            blunt(pair, (float) does * hardnessOf(lots.grain[ground]) / 64f);
            if (lots.state[ground] == DONE) {
                lot[pair] = NONE;
            }
            return gets;
        }

        private void blunt(int pair, float more) {
            float sum = dull[pair] + more;
            dull[pair] = sum > 1f ? 1f : sum;
        }
    }

    /** All that a TICK can change, or that decides what it changes. */
    private static final class Mill {
        final Sea sea = new Sea();
        final Pond pond = new Pond();
        final Lots lots = new Lots();
        final Pairs pairs = new Pairs();
        int firstHour = 0;
        int lastHour = DAY_TICKS - 1;
        int eels;

        void copyFrom(Mill other) {
            sea.copyFrom(other.sea);
            pond.copyFrom(other.pond);
            lots.copyFrom(other.lots);
            pairs.copyFrom(other.pairs);
            firstHour = other.firstHour;
            lastHour = other.lastHour;
            eels = other.eels;
        }

        boolean isAwake() {
            int hour = sea.hourNow();
            if (firstHour > lastHour) {
                return hour >= firstHour || hour <= lastHour;
            }
            return hour >= firstHour && hour <= lastHour;
        }

        void letGoBy(int ticks) {
            for (int gone = 0; gone < ticks; gone++) {
                goBy();
            }
        }

        void goBy() {
            pond.goBy(sea.heightOn(sea.tick));
            pairs.goBy(pond.force, isAwake(), lots);
            if (pond.force > 0.0 && areEelsAbout()) {
                eels += pond.sluice;
            }
            sea.tick++;
        }

        private boolean areEelsAbout() {
            int age = sea.ageOn(sea.tick);
            int hour = sea.hourNow();
            return age >= 13 && age <= 17 && (hour < 12 || hour > 35);
        }
    }
}
