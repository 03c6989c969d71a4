import java.util.function.Supplier;

/**
 * The edges of what would be (promises 26 to 29; high is in SeaEdgesTest). Each method holds one sentence of the
 * document, which its comment quotes. That nothing is changed by these calls is in RefusedTest, askedInVain.
 */
public final class WouldEdgesTest {
    private static final Class<IllegalArgumentException> ARGUMENT = IllegalArgumentException.class;
    private static final Class<IndexOutOfBoundsException> INDEX = IndexOutOfBoundsException.class;

    public static void main(String[] args) {
        levelEnds();
        levelBeyondTheLastTick();
        doneNow();
        doneOnTheLastTickAsked();
        doneOfNone();
        doneAsleep();
        doneBeyondTheLastTick();
        doneWithOthersAhead();
        doneBesideADressing();
        bestEnds();
        bestOfNothing();
        bestOfSeveral();
        bestIsNotTheStrongest();
        bestOfAllLots();
        bestBeyondTheLastTick();
        digestOfNothing();
        digestOfEverything();
        digestCutsTowardsNothing();
        Check.finish("WouldEdgesTest");
    }

    /** A mill that works with all that it has. */
    private static TideMill works() {
        TideMill mill = Mills.flooded();
        mill.surge(2);
        mill.moon(14);
        mill.gates(2);
        mill.sluice(1);
        mill.scour(true);
        mill.hours(30, 20);
        for (int pair = 0; pair < 3; pair++) {
            mill.pair();
            mill.lot(pair, pair, 60, 1);
            mill.feed(pair, pair);
        }
        return mill;
    }

    /** A mill that begins on this TICK, with water for its wheel twice a DAY. */
    private static TideMill begunOn(int tick) {
        TideMill mill = Mills.at(tick);
        mill.surge(8);
        mill.gates(3);
        mill.sluice(2);
        mill.pair();
        mill.lot(0, 0, 60, 0);
        mill.feed(0, 0);
        return mill;
    }

    // ---- wouldLevel

    /** "if ticks is not 1 to 100"; "LEVEL behind them" is the one that passing makes. */
    private static void levelEnds() {
        for (int ticks : new int[] {1, 2, 47, 99, 100}) {
            TideMill mill = works();
            double would = mill.wouldLevel(ticks);
            mill.pass(ticks);
            Check.same("26: wouldLevel(" + ticks + ")", would, mill.pond(0));
        }
        TideMill mill = works();
        Check.raises(mill, "26: wouldLevel(0)", ARGUMENT, () -> mill.wouldLevel(0));
        Check.raises(mill, "26: wouldLevel(101)", ARGUMENT, () -> mill.wouldLevel(101));
        Check.same("26: of a new mill", new TideMill().wouldLevel(100), 0.0);
    }

    /** "(nothing is changed; also beyond TICK 5000)": reckoned by hand from TICK 5000 (PHASE 0.5) on. */
    private static void levelBeyondTheLastTick() {
        TideMill mill = Mills.at(5000);
        mill.gates(1);
        mill.surge(8);
        mill.moon(16);
        Check.same("AGE on DAY 104", mill.many(2), 0);
        double sea = 2.0 + 4.0 * (0.5 / 12.0) - 2.0;
        double first = sea * 0.5 / 8.0;
        Check.same("26: wouldLevel(1) on TICK 5000", mill.wouldLevel(1), first);
        double next = 2.0 + 4.0 * (1.5 / 12.0) - 2.0;
        float silt = (float) (sea * 0.5) / 64f;
        double second = first + (next - first) * 0.5 / (8.0 - (double) silt);
        Check.same("26: wouldLevel(2) on TICK 5000", mill.wouldLevel(2), second);
        Check.same("26: wouldLevel(100) on TICK 5000", mill.wouldLevel(100) > second, true);
        TideMill late = Mills.at(4999);
        late.gates(1);
        late.surge(8);
        double would = late.wouldLevel(1);
        Check.same("26: over TICK 5000", late.wouldLevel(2) != would, true);
        late.pass(1);
        Check.same("26: to TICK 5000", late.pond(0), would);
        Check.same("TICK", late.many(0), 5000);
    }

    // ---- wouldDone

    /** "0, if it is DONE or GIVEN"; 1 is the least of the others. */
    private static void doneNow() {
        TideMill mill = Mills.flooded();
        mill.pair();
        mill.lot(0, 0, 4, 0);
        mill.lot(0, 0, 5, 0);
        mill.feed(0, 0);
        Check.same("27: on the next TICK", mill.wouldDone(0), 1);
        mill.pass(1);
        Check.same("27: DONE", mill.wouldDone(0), 0);
        mill.give(0);
        Check.same("27: GIVEN", mill.wouldDone(0), 0);
        mill.feed(0, 1);
        Check.same("27: on the TICK behind that", mill.wouldDone(1), 2);
        mill.take(0);
        Check.same("27: it WAITS again", mill.wouldDone(1), -1);
    }

    /** "behind how many TICKS (1 to 300)": 300 TICKS are asked, and not one more. */
    private static void doneOnTheLastTickAsked() {
        // AWAKE on TICK 47 of the DAY alone, it ends on TICK 48 * k for some k.
        Supplier<TideMill> made = () -> {
            TideMill mill = begunOn(0);
            mill.hours(47, 47);
            return mill;
        };
        TideMill whole = made.get();
        int end = 0;
        while (end < 5000 && whole.ofLot(0, 4) != 2) {
            whole.pass(48);
            end += 48;
        }
        Check.same("it is DONE far enough on", end > 302 && end < 5000, true);
        int[] aheads = {302, 301, 300, 299, 1};
        int[] dues = {-1, -1, 300, 299, 1};
        for (int i = 0; i < aheads.length; i++) {
            TideMill mill = made.get();
            Mills.passMany(mill, end - aheads[i]);
            Check.same("27: " + aheads[i] + " TICKS ahead", mill.wouldDone(0), dues[i]);
            Mills.passMany(mill, aheads[i] - 1);
            Check.same("STATE one TICK ahead", mill.ofLot(0, 4), 1);
            Check.same("16: and then", mill.pass(1), 1);
        }
    }

    /** "NONE, if not so": it WAITS, or no FORCE comes. */
    private static void doneOfNone() {
        TideMill mill = begunOn(0);
        mill.lot(0, 0, 1, 0);
        Check.same("27: it is at a PAIR", mill.wouldDone(0) > 1, true);
        Check.same("27: it WAITS", mill.wouldDone(1), -1);
        mill.sluice(0);
        Check.same("27: no FORCE", mill.wouldDone(0), -1);
        mill.sluice(2);
        mill.gates(0);
        Check.same("27: no water", mill.wouldDone(0), -1);
        Check.raises(mill, "27: wouldDone(2)", INDEX, () -> mill.wouldDone(2));
        Check.raises(mill, "27: wouldDone(-1)", INDEX, () -> mill.wouldDone(-1));
    }

    /** HOURS are kept in what would be, too. */
    private static void doneAsleep() {
        TideMill mill = Mills.flooded();
        mill.sluice(1);
        mill.pair();
        mill.lot(0, 1, 3, 0);
        mill.feed(0, 0);
        mill.hours(28, 28);
        Check.same("27: on TICK 28 of the DAY", mill.wouldDone(0), 3);
        mill.hours(30, 27);
        Check.same("27: now", mill.wouldDone(0), 1);
    }

    private static void doneBeyondTheLastTick() {
        TideMill late = begunOn(5000);
        int due = late.wouldDone(0);
        Check.same("27: beyond TICK 5000", due > 1 && due <= 300, true);
        Check.same("TICK", late.many(0), 5000);
        Check.same("STATE", late.ofLot(0, 4), 1);
        int tick = 5000 - begunOn(4900).wouldDone(0) + 1;
        Check.same("27: it takes less than 100 TICKS", tick > 4900, true);
        TideMill over = begunOn(tick);
        int ticks = over.wouldDone(0);
        Check.same("27: from ahead of TICK 5000 to behind it", ticks > 5000 - tick && ticks <= 300, true);
        Mills.passMany(over, 5000 - tick);
        Check.same("27: on TICK 5000", over.wouldDone(0), ticks - (5000 - tick));
    }

    /** The PAIRS ahead take their FORCE, and give it up as their LOT is DONE. */
    private static void doneWithOthersAhead() {
        int[] weights = {9, 7, 20};
        for (int lot = 0; lot < 3; lot++) {
            TideMill mill = Mills.flooded();
            mill.sluice(1);
            for (int pair = 0; pair < 3; pair++) {
                mill.pair();
                mill.lot(pair, pair, weights[pair], 1);
                mill.feed(pair, pair);
            }
            int due = mill.wouldDone(lot);
            Check.same("27: it would be DONE", due > 1, true);
            Mills.passMany(mill, due - 1);
            Check.same("27: not yet", mill.ofLot(lot, 4), 1);
            mill.pass(1);
            Check.same("27: but now", mill.ofLot(lot, 4), 2);
        }
    }

    /** A DRESSING goes on in what would be, and keeps the PAIR from SPARKS until it is over. */
    private static void doneBesideADressing() {
        for (int dressed = 0; dressed <= 1; dressed++) {
            TideMill mill = Mills.strong();
            mill.pair();
            mill.pair();
            mill.lot(0, 0, 4, 0);
            mill.feed(1, 0);
            if (dressed == 1) {
                mill.dress(0);
            }
            int due = dressed == 1 ? 1 : 3;
            Check.same("27: PAIR 0 takes 1.0 for SPARKS on two TICKS, or nothing", mill.wouldDone(0), due);
            Check.same("28: what PAIR 0 leaves", mill.best(1), dressed == 1 ? 3 : 2);
        }
    }

    // ---- best

    private static int bestByPassing(Supplier<TideMill> made, int ticks) {
        int best = -1;
        double least = 0.0;
        for (int sluice = 0; sluice <= 4; sluice++) {
            TideMill mill = made.get();
            mill.sluice(sluice);
            mill.pass(ticks);
            double sum = 0.0;
            for (int lot = 0; lot < mill.many(7); lot++) {
                sum += mill.left(lot);
            }
            if (best < 0 || sum < least) {
                best = sluice;
                least = sum;
            }
        }
        return best;
    }

    /** "if ticks is not 1 to 48" */
    private static void bestEnds() {
        for (int ticks : new int[] {1, 2, 24, 47, 48}) {
            Check.same("28: best(" + ticks + ")", works().best(ticks), bestByPassing(WouldEdgesTest::works, ticks));
        }
        TideMill mill = works();
        Check.raises(mill, "28: best(0)", ARGUMENT, () -> mill.best(0));
        Check.raises(mill, "28: best(49)", ARGUMENT, () -> mill.best(49));
        Check.same("SLUICE stays", mill.many(5), 1);
    }

    /** "of several the smallest": without a LOT at a PAIR it is 0. */
    private static void bestOfNothing() {
        Check.same("28: of a new mill", new TideMill().best(48), 0);
        TideMill mill = Mills.flooded();
        Check.same("28: without PAIRS and LOTS", mill.best(48), 0);
        mill.pair();
        Check.same("28: without LOTS", mill.best(48), 0);
        mill.lot(0, 0, 4, 0);
        Check.same("28: it WAITS", mill.best(48), 0);
        mill.feed(0, 0);
        Check.same("28: it is at a PAIR", mill.best(48), 1);
        mill.pass(1);
        Check.same("28: it is DONE", mill.best(48), 0);
        mill.give(0);
        Check.same("28: it is GIVEN", mill.best(48), 0);
    }

    /** "of several the smallest": FORCE is 0.390625 times SLUICE, and each PAIR NEEDS 1.0. */
    private static void bestOfSeveral() {
        TideMill one = Mills.filled(24);
        one.pair();
        one.lot(0, 0, 60, 0);
        one.feed(0, 0);
        Check.same("28: 3 and 4 give 1.0 or more", one.best(1), 3);
        one.take(0);
        one.lot(0, 0, 1, 0);
        one.feed(0, 1);
        Check.same("28: 1 to 4 give 0.25 or more", one.best(1), 1);
        one.hours(0, 0);
        Check.same("28: asleep, all give nothing", one.best(1), 0);
        TideMill low = Mills.filled(36);
        low.surge(8);
        low.pair();
        low.lot(0, 0, 60, 0);
        low.feed(0, 0);
        Check.same("28: below the SEA all give nothing", low.best(1), 0);
    }

    /** "behind these": what runs out fast at first is not there later. */
    private static void bestIsNotTheStrongest() {
        boolean[] isSeen = new boolean[5];
        for (int weight = 4; weight <= 60; weight += 4) {
            int heavy = weight;
            Supplier<TideMill> made = () -> {
                TideMill mill = Mills.flooded();
                mill.pair();
                mill.lot(0, 1, heavy, 0);
                mill.feed(0, 0);
                return mill;
            };
            for (int ticks = 1; ticks <= 48; ticks += 47) {
                int best = made.get().best(ticks);
                Check.same("28: best(" + ticks + ") of " + weight, best, bestByPassing(made, ticks));
                isSeen[best] = true;
            }
        }
        Check.same("28: it was 1", isSeen[1], true);
        Check.same("28: and it was not 4 alone", isSeen[4], false);
    }

    /** "the LEFTS of all LOTS would be the least together" */
    private static void bestOfAllLots() {
        TideMill mill = Mills.filled(24);
        for (int pair = 0; pair < 2; pair++) {
            mill.pair();
            mill.lot(0, 0, 60, 0);
        }
        mill.feed(0, 0);
        Check.same("28: one at a PAIR; the other one makes SPARKS", mill.best(1), 3);
        mill.feed(1, 1);
        Check.same("28: two at PAIRS", mill.best(1), 4);
    }

    private static void bestBeyondTheLastTick() {
        TideMill mill = begunOn(5000);
        Check.same("28: best(1) on TICK 5000", mill.best(1), 0);
        Check.same("28: best(48) on TICK 5000", mill.best(48) > 0, true);
        Check.same("TICK", mill.many(0), 5000);
    }

    // ---- digest

    /** "A number d starts with 58306; then d becomes d * 31 + v": no PAIR and no LOT adds to it. */
    private static void digestOfNothing() {
        long d = 58306;
        int[] many = {0, 0, 0, 0, 0, 0, 0, 0, 0, 0, 0, 0, 0, 0, 1, 0, 0};
        for (int v : many) {
            d = d * 31 + v;
        }
        d = d * 31 * 31 * 31;
        d = d * 31 * 31 * 31 * 31;
        d = d * 31 + 12;
        d = d * 31;
        Check.same("29: of a new mill", new TideMill().digest(), d);
    }

    private static long add(long sum, long... values) {
        long d = sum;
        for (long v : values) {
            d = d * 31 + v;
        }
        return d;
    }

    /** ".. for each v in this order", by numbers that were reckoned by hand. */
    private static void digestOfEverything() {
        TideMill mill = Mills.strong();
        mill.surge(-8);
        mill.moon(14);
        mill.pair();
        mill.pair();
        mill.lot(3, 0, 4, 2);
        mill.lot(1, 1, 30, 0);
        mill.lot(0, 2, 60, 30);
        mill.feed(0, 0);
        mill.dress(1);
        mill.pass(1);
        mill.give(0);
        mill.feed(0, 1);
        mill.gates(1);
        mill.sluice(3);
        mill.bell();
        mill.lock(true);
        long d = add(58306, 25, 0, 14, 1, 1, 3, 2, 3, 1, 0, 1, 0, 3, 0, 1, 1, 1);
        d = add(d, (long) (1024 * (0.75 - 1.25 / 7.90625)), 96, 256);
        d = add(d, 1, 0, 0, 16);
        d = add(d, -1, 2, 0, 0);
        d = add(d, 3, 0, 4, 2, 3, -1, 0, 0);
        d = add(d, 1, 1, 30, 0, 1, 0, 30 * 1024, mill.wouldDone(1));
        d = add(d, 0, 2, 60, 30, 0, -1, 60 * 1024, -1);
        d = add(d, 60, 30, 0, 0);
        d = add(d, 12, mill.best(24));
        Check.same("29: digest()", mill.digest(), d);
        Check.same("29: it wraps around", 58306 * Math.pow(31, 20) > Long.MAX_VALUE, true);
    }

    /** "(each product cut to a whole number, as (long) does)": towards 0, also below it. */
    private static void digestCutsTowardsNothing() {
        TideMill mill = Mills.strong();
        mill.pass(1);
        mill.sluice(0);
        mill.scour(true);
        mill.pass(3);
        double level = 0.75 - 1.25 / 7.90625 - 0.25 - 0.25 - 0.25;
        Check.same("LEVEL is below 0.0", mill.pond(0), level);
        Check.same("and no whole 1024th", 1024 * level != Math.floor(1024 * level), true);
        long d = add(58306, 28, 0, 0, 0, 0, 0, 0, 0, 0, 0, 0, 0, 0, 0, 1, 0, 0);
        d = add(d, -(long) Math.floor(-1024 * level), 0, 0);
        d = add(d, 0, 0, 0, 0);
        d = add(d, mill.high(), 0);
        Check.same("29: digest()", mill.digest(), d);
    }
}
