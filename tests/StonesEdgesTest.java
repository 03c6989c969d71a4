/**
 * The edges of PAIRS and LOTS: step (4) of a TICK, "3. Grain and flour", and promises 10 to 15 and 19 to 24.
 * Each method holds one sentence of the document, which its comment quotes.
 */
public final class StonesEdgesTest {
    private static final Class<IllegalArgumentException> ARGUMENT = IllegalArgumentException.class;
    private static final Class<IllegalStateException> STATE = IllegalStateException.class;
    private static final Class<IndexOutOfBoundsException> INDEX = IndexOutOfBoundsException.class;

    public static void main(String[] args) {
        dressingOneLess();
        dressingTakesTheTurn();
        dressingAsleep();
        grindingByHours();
        getsTheSmallerOne();
        getsNothing();
        needOfDull();
        leftAtLeast();
        leftAboveNothing();
        freedPair();
        dullAtMostByGrinding();
        dullAtMostByALittle();
        dullAtMostBySparks();
        sparkAboveOne();
        sparksOneByOne();
        sparksAheadOfALot();
        noSparkWithALot();
        sparksAsleep();
        pairsAtMost();
        pairNumbers();
        lotEnds();
        lotsAtMost();
        lotsAtMostWhenGiven();
        dueDay();
        feedLastOne();
        feedBesideADressing();
        takeAndFeed();
        takeEach();
        takeOfDone();
        dressRoundedUp();
        giveRoundedDown();
        giveByDueDay();
        purseBelowNothing();
        owners();
        states();
        Check.finish("StonesEdgesTest");
    }

    /** A mill on TICK 36 whose next TICK has this FORCE: 0.5625 for -7, 1.0 for -8, with SLUICE 4. */
    private static TideMill on36(int quarters) {
        TideMill mill = Mills.filled(36);
        mill.surge(quarters);
        mill.sluice(4);
        return mill;
    }

    private static void layPairs(TideMill mill, int pairs) {
        for (int pair = 0; pair < pairs; pair++) {
            mill.pair();
        }
    }

    /** Brings a LOT of a GRAIN, as OWNER 0, and feeds the PAIR with it. */
    private static int feedNew(TideMill mill, int pair, int grain, int weight) {
        int lot = mill.lot(0, grain, weight, 0);
        mill.feed(pair, lot);
        return lot;
    }

    // ---- (4): DRESSING

    /** "one with a DRESSING above 0 has it 1 less; if it is 0 then, DULL is 0f." */
    private static void dressingOneLess() {
        TideMill mill = Mills.strong();
        mill.pair();
        mill.pass(1);
        mill.sluice(0);
        Check.same("DRESSING", mill.dress(0), 4);
        int[] dressings = {3, 2, 1, 0, 0};
        double[] dulls = {0.125, 0.125, 0.125, 0.0, 0.0};
        for (int tick = 0; tick < dressings.length; tick++) {
            mill.pass(1);
            Check.same("DRESSING behind " + (tick + 1), mill.ofPair(0, 1), dressings[tick]);
            Check.same("DULL behind " + (tick + 1), mill.dull(0), dulls[tick]);
        }
    }

    /** "Otherwise ..", and "a PAIR that had no LOT and no DRESSING as its turn came": not on its last TICK yet. */
    private static void dressingTakesTheTurn() {
        TideMill mill = Mills.flooded();
        mill.pair();
        mill.dress(0);
        int[] sparks = {0, 0, 0, 1, 2};
        double[] dulls = {0.0, 0.0, 0.0, 0.125, 0.25};
        for (int tick = 0; tick < sparks.length; tick++) {
            mill.pass(1);
            Check.same("there is a FORCE for SPARKS", mill.pond(3) > 1.0, true);
            Check.same("SPARKS behind " + (tick + 1), mill.ofPair(0, 2), sparks[tick]);
            Check.same("DULL behind " + (tick + 1), mill.dull(0), dulls[tick]);
        }
    }

    /** One needs not be AWAKE for a DRESSING: "Otherwise, if one is AWAKE". */
    private static void dressingAsleep() {
        TideMill mill = Mills.filled(24);
        mill.pair();
        mill.hours(23, 23);
        mill.dress(0);
        mill.pass(2);
        Check.same("DRESSING behind 2", mill.ofPair(0, 1), 1);
        mill.pass(1);
        Check.same("DRESSING behind 3", mill.ofPair(0, 1), 0);
    }

    // ---- (4): with a LOT

    /** "if one is AWAKE", by the TICK that goes by: the first and the last one of the HOURS, also over midnight. */
    private static void grindingByHours() {
        int[][] hours = {{0, 47}, {26, 26}, {27, 27}, {30, 33}, {25, 25}, {46, 1}, {47, 0}, {0, 0}, {47, 47}, {27, 25}};
        for (int[] h : hours) {
            TideMill mill = Mills.flooded();
            mill.sluice(1);
            mill.pair();
            mill.hours(h[0], h[1]);
            for (int tick = 74; tick < 74 + 48; tick++) {
                if (mill.ofPair(0, 0) == -1) {
                    feedNew(mill, 0, 1, 60);
                }
                int lot = mill.ofPair(0, 0);
                double left = mill.left(lot);
                mill.pass(1);
                int hour = tick % 48;
                boolean isAwake = h[0] <= h[1] ? hour >= h[0] && hour <= h[1] : hour >= h[0] || hour <= h[1];
                Check.same("HOURS " + h[0] + " to " + h[1] + " on TICK " + tick, mill.left(lot) < left, isAwake);
            }
        }
    }

    /** "GETS (double) is the smaller one of NEED and FORCE; FORCE is that less" */
    private static void getsTheSmallerOne() {
        double[][] lefts = {{57.75, 60.0, 60.0}, {56.0, 60.0, 60.0}};
        for (int i = 0; i < 2; i++) {
            TideMill mill = on36(-7 - i);
            layPairs(mill, 3);
            for (int pair = 0; pair < 3; pair++) {
                feedNew(mill, pair, 0, 60);
            }
            mill.pass(1);
            Check.same("FORCE", mill.pond(3), i == 0 ? 0.5625 : 1.0);
            for (int pair = 0; pair < 3; pair++) {
                Check.same("LEFT at PAIR " + pair, mill.left(pair), lefts[i][pair]);
                Check.same("DULL of PAIR " + pair, mill.dull(pair), (60.0 - lefts[i][pair]) / 4.0 / 64.0);
            }
        }
        TideMill more = Mills.flooded();
        layPairs(more, 3);
        for (int pair = 0; pair < 3; pair++) {
            feedNew(more, pair, pair, 60);
        }
        more.pass(1);
        Check.same("FORCE for all", more.pond(3) > 3.0, true);
        double[] full = {56.0, 57.0, 55.0};
        double[] dulls = {1.0 / 64.0, 2.0 / 64.0, 1.0 / 64.0};
        for (int pair = 0; pair < 3; pair++) {
            Check.same("LEFT, NEED got", more.left(pair), full[pair]);
            Check.same("DULL, NEED got", more.dull(pair), dulls[pair]);
        }
    }

    /** Without a FORCE GETS is 0.0: LEFT and DULL stay, and the LOT stays at its PAIR. */
    private static void getsNothing() {
        TideMill mill = on36(-4);
        mill.pair();
        feedNew(mill, 0, 0, 1);
        mill.pass(1);
        Check.same("FORCE", mill.pond(3), 0.0);
        Check.same("LEFT", mill.left(0), 1.0);
        Check.same("DULL", mill.dull(0), 0.0);
        Check.same("its LOT", mill.ofPair(0, 0), 0);
        Check.same("DRESSING", mill.ofPair(0, 1), 0);
    }

    /** "NEED (double) is 1.0 and DULL": 2.0 for the dullest, be there more FORCE than that or less. */
    private static void needOfDull() {
        for (int wait : new int[] {8, 14}) {
            TideMill mill = Mills.flooded();
            mill.sluice(1);
            mill.pair();
            mill.pass(wait);
            Check.same("DULL", mill.dull(0), 1.0);
            mill.pair();
            feedNew(mill, 0, 0, 60);
            feedNew(mill, 1, 0, 60);
            mill.pass(1);
            double force = mill.pond(3);
            Check.same("FORCE is 2.0 or more", force >= 2.0, wait == 8);
            double gets = Math.min(2.0, force);
            Check.same("LEFT at the dullest", mill.left(0), 60.0 - gets / 2.0 * 4.0);
            Check.same("LEFT at the next one", mill.left(1), 60.0 - (force - gets) * 4.0);
        }
    }

    /** "LEFT of the LOT is DOES * PACE less (0.0 at least)", "If LEFT is 0.0 then, the LOT is DONE" */
    private static void leftAtLeast() {
        int[] paces = {4, 3, 5};
        for (int grain = 0; grain <= 2; grain++) {
            for (int weight = 1; weight <= 11; weight++) {
                TideMill mill = Mills.flooded();
                mill.pair();
                feedNew(mill, 0, grain, weight);
                double left = weight;
                for (int tick = 1; tick <= 3; tick++) {
                    left = Math.max(0.0, left - paces[grain]);
                    Check.same("16: how many are DONE", mill.pass(1), left == 0.0 ? 1 : 0);
                    Check.same("LEFT of " + weight + " behind " + tick, mill.left(0), left);
                    Check.same("STATE", mill.ofLot(0, 4), left == 0.0 ? 2 : 1);
                    Check.same("its PAIR", mill.ofLot(0, 5), left == 0.0 ? -1 : 0);
                    Check.same("the LOT of the PAIR", mill.ofPair(0, 0), left == 0.0 ? -1 : 0);
                }
            }
        }
    }

    /** However little is LEFT above 0.0, the LOT is not DONE. */
    private static void leftAboveNothing() {
        TideMill mill = Mills.flooded();
        mill.sluice(1);
        mill.pass(21);
        mill.pair();
        feedNew(mill, 0, 0, 4);
        Check.same("16: none is DONE", mill.pass(1), 0);
        double force = mill.pond(3);
        Check.same("FORCE is just below 1.0", force > 0.999 && force < 1.0, true);
        Check.same("LEFT", mill.left(0), 4.0 - force * 4.0);
        Check.same("STATE", mill.ofLot(0, 4), 1);
        Check.same("16: one is DONE", mill.pass(1), 1);
        Check.same("LEFT then", mill.left(0), 0.0);
        TideMill least = Mills.justBelowOne();
        least.pair();
        feedNew(least, 0, 0, 4);
        Check.same("16: none is DONE", least.pass(1), 0);
        double rest = least.left(0);
        Check.same("next to nothing is LEFT", rest > 0.0 && rest < 1e-14, true);
        Check.same("STATE", least.ofLot(0, 4), 1);
        Check.same("its PAIR", least.ofLot(0, 5), 0);
        Check.same("16: one is DONE", least.pass(1), 1);
    }

    /** "the LOT is DONE, and the PAIR has none": it makes no SPARK yet, and may be fed or dressed at once. */
    private static void freedPair() {
        for (int next = 0; next < 3; next++) {
            TideMill mill = Mills.flooded();
            layPairs(mill, 1);
            feedNew(mill, 0, 0, 4);
            mill.lot(1, 0, 4, 0);
            mill.pass(1);
            Check.same("there was a FORCE for a SPARK", mill.pond(3) > 2.0, true);
            Check.same("no SPARK on the TICK that ends its LOT", mill.ofPair(0, 2), 0);
            Check.same("DULL of the LOT alone", mill.dull(0), 0.015625);
            if (next == 0) {
                Check.same("12: feed(0, 1)", mill.feed(0, 1), 0);
            } else if (next == 1) {
                Check.same("14: dress(0)", mill.dress(0), 4);
            }
            mill.pass(1);
            Check.same("a SPARK on the next TICK, if it has none", mill.ofPair(0, 2), next == 2 ? 1 : 0);
        }
    }

    /** DULL is "1f at most": by grinding. */
    private static void dullAtMostByGrinding() {
        for (int wheat = 0; wheat <= 1; wheat++) {
            TideMill mill = Mills.flooded();
            mill.sluice(1);
            mill.pair();
            mill.pass(7);
            Check.same("DULL of 7 SPARKS", mill.dull(0), 0.875);
            mill.sluice(4);
            double due = 0.875;
            if (wheat == 1) {
                feedNew(mill, 0, 0, 4);
                mill.pass(1);
                due += 0.015625;
            }
            int lot = feedNew(mill, 0, 1, 60);
            for (int tick = 1; tick <= 5 - wheat; tick++) {
                mill.pass(1);
                Check.same("all of NEED was got", mill.left(lot), 60.0 - 3.0 * tick);
                due = Math.min(1.0, due + 0.03125);
                Check.same("DULL behind " + tick, mill.dull(0), due);
            }
            Check.same("DULL at most", mill.dull(0), 1.0);
        }
    }

    /** DULL is "1f at most": be it ever so little more. */
    private static void dullAtMostByALittle() {
        TideMill mill = Mills.flooded();
        mill.sluice(1);
        mill.pair();
        mill.pass(8);
        Check.same("DULL of 8 SPARKS", mill.dull(0), 1.0);
        feedNew(mill, 0, 0, 60);
        mill.surge(6);
        mill.pass(1);
        Check.same("FORCE is small", mill.pond(3) > 0.0 && mill.pond(3) < 0.1, true);
        Check.same("it ground", mill.left(0) < 60.0, true);
        Check.same("DULL at most", mill.dull(0), 1.0);
    }

    /** DULL is "1f at most": by SPARKS, which are counted on. */
    private static void dullAtMostBySparks() {
        for (int wheat = 0; wheat <= 1; wheat++) {
            TideMill mill = Mills.flooded();
            mill.sluice(1);
            mill.pair();
            double due = 0.0;
            if (wheat == 1) {
                feedNew(mill, 0, 0, 4);
                mill.pass(1);
                due = 0.015625;
            }
            for (int sparks = 1; sparks <= 10; sparks++) {
                mill.pass(1);
                due = Math.min(1.0, due + 0.125);
                Check.same("SPARKS", mill.ofPair(0, 2), sparks);
                Check.same("DULL of " + sparks, mill.dull(0), due);
            }
            Check.same("14: dress() of the dullest", mill.dress(0), 11);
        }
    }

    // ---- (4): SPARKS

    /** ".. with a FORCE above 1.0, SPARKS" */
    private static void sparkAboveOne() {
        TideMill one = on36(-8);
        one.pair();
        one.pass(1);
        Check.same("FORCE of 1.0", one.pond(3), 1.0);
        Check.same("no SPARK", one.ofPair(0, 2), 0);
        Check.same("DULL", one.dull(0), 0.0);
        TideMill below = Mills.justBelowOne();
        below.pair();
        below.pass(1);
        Check.same("FORCE just below 1.0", below.pond(3) > 0.999 && below.pond(3) < 1.0, true);
        Check.same("no SPARK", below.ofPair(0, 2), 0);
        TideMill least = Mills.filled(161, 3, -7);
        least.sluice(4);
        least.pair();
        least.pass(1);
        Check.same("FORCE nearer above", least.pond(3) > 1.0 && least.pond(3) < 1.005, true);
        Check.same("a SPARK", least.ofPair(0, 2), 1);
        TideMill above = on36(-5);
        above.moon(7);
        above.pair();
        above.pass(1);
        Check.same("FORCE just above", above.pond(3), 1.015625 * 1.015625);
        Check.same("a SPARK", above.ofPair(0, 2), 1);
        Check.same("DULL of it", above.dull(0), 0.125);
    }

    /** "FORCE 1.0 less", "with what of FORCE the ones ahead left": one SPARKS for each 1.0 that is below the FORCE. */
    private static void sparksOneByOne() {
        boolean[] isSeen = new boolean[4];
        for (int tick = 74; tick <= 104; tick++) {
            TideMill mill = Mills.flooded();
            mill.sluice(1);
            Mills.passMany(mill, tick - 74);
            layPairs(mill, 3);
            mill.pass(1);
            int due = 0;
            for (double rest = mill.pond(3); rest > 1.0 && due < 3; rest -= 1.0) {
                due++;
            }
            isSeen[due] = true;
            Check.same("SPARKS of FORCE " + mill.pond(3), mill.many(13), due);
            for (int pair = 0; pair < 3; pair++) {
                Check.same("SPARKS of PAIR " + pair, mill.ofPair(pair, 2), pair < due ? 1 : 0);
                Check.same("DULL of PAIR " + pair, mill.dull(pair), pair < due ? 0.125 : 0.0);
            }
        }
        for (int sparks = 0; sparks <= 3; sparks++) {
            Check.same("there were " + sparks, isSeen[sparks], true);
        }
    }

    /** What SPARKS took is gone for a LOT behind them, but not for one ahead. */
    private static void sparksAheadOfALot() {
        TideMill behind = Mills.strong();
        layPairs(behind, 2);
        feedNew(behind, 1, 0, 60);
        behind.pass(1);
        Check.same("LEFT behind a SPARK", behind.left(0), 60.0 - 0.5625 * 4.0);
        TideMill ahead = Mills.strong();
        layPairs(ahead, 2);
        feedNew(ahead, 0, 0, 60);
        ahead.pass(1);
        Check.same("LEFT ahead", ahead.left(0), 56.0);
        Check.same("0.5625 is too little for a SPARK", ahead.many(13), 0);
    }

    /** A PAIR with a LOT makes none, whatever FORCE it leaves. */
    private static void noSparkWithALot() {
        TideMill mill = Mills.flooded();
        mill.pair();
        feedNew(mill, 0, 0, 60);
        mill.pass(3);
        Check.same("FORCE", mill.pond(3) > 3.0, true);
        Check.same("SPARKS", mill.many(13), 0);
        mill.take(0);
        mill.pass(1);
        Check.same("SPARKS once it is taken off", mill.many(13), 1);
    }

    /** "Still if one is AWAKE" */
    private static void sparksAsleep() {
        TideMill mill = Mills.flooded();
        mill.sluice(1);
        mill.pair();
        mill.hours(27, 28);
        int[] sparks = {0, 1, 2, 2, 2};
        for (int tick = 0; tick < sparks.length; tick++) {
            mill.pass(1);
            Check.same("SPARKS behind TICK " + (74 + tick), mill.ofPair(0, 2), sparks[tick]);
        }
    }

    // ---- PAIRS and LOTS

    /** "PAIRS of stones: at most 3, numbered from 0" */
    private static void pairsAtMost() {
        TideMill mill = new TideMill();
        Check.raises(mill, "19: ofPair(0, 0) without PAIRS", INDEX, () -> mill.ofPair(0, 0));
        Check.same("PAIRS at first", mill.many(6), 0);
        for (int pair = 0; pair < 3; pair++) {
            int next = pair + 1;
            Check.same("10: pair()", mill.pair(), pair);
            Check.same("PAIRS", mill.many(6), next);
            Check.same("20: dull() of the last one", mill.dull(pair), 0.0);
            Check.raises(mill, "20: dull() of the next one", INDEX, () -> mill.dull(next));
        }
        Check.raises(mill, "10: a fourth pair()", STATE, () -> mill.pair());
        Check.raises(mill, "10: and once more", STATE, () -> mill.pair());
        Check.same("PAIRS", mill.many(6), 3);
        mill.pass(1);
        Check.raises(mill, "10: and later", STATE, () -> mill.pair());
    }

    /** Each PAIR is one of its own: what is done with one does not show at another. */
    private static void pairNumbers() {
        for (int used = 0; used < 3; used++) {
            TideMill mill = new TideMill();
            layPairs(mill, 3);
            mill.lot(0, 0, 1, 0);
            mill.feed(used, 0);
            for (int pair = 0; pair < 3; pair++) {
                Check.same("LOT of PAIR " + pair, mill.ofPair(pair, 0), pair == used ? 0 : -1);
            }
            Check.same("PAIR of the LOT", mill.ofLot(0, 5), used);
            mill.take(used);
            mill.dress(used);
            for (int pair = 0; pair < 3; pair++) {
                Check.same("DRESSING of PAIR " + pair, mill.ofPair(pair, 1), pair == used ? 3 : 0);
            }
        }
    }

    /** lot: "if owner is not 0 to 3, grain not 0 to 2, weight not 1 to 60, or days not 0 to 30" */
    private static void lotEnds() {
        TideMill mill = new TideMill();
        Check.same("11: all the least", mill.lot(0, 0, 1, 0), 0);
        Check.same("11: all the greatest", mill.lot(3, 2, 60, 30), 1);
        int[][] wrongs = {
            {-1, 0, 1, 0}, {4, 0, 1, 0}, {0, -1, 1, 0}, {0, 3, 1, 0},
            {0, 0, 0, 0}, {0, 0, 61, 0}, {0, 0, 1, -1}, {0, 0, 1, 31},
        };
        for (int[] w : wrongs) {
            Check.raises(mill, "11: a wrong one", ARGUMENT, () -> mill.lot(w[0], w[1], w[2], w[3]));
        }
        int[][] told = {{0, 0, 1, 0}, {3, 2, 60, 30}};
        for (int lot = 0; lot < 2; lot++) {
            for (int what = 0; what <= 3; what++) {
                Check.same("21: ofLot(" + lot + ", " + what + ")", mill.ofLot(lot, what), told[lot][what]);
            }
            Check.same("LEFT is WEIGHT at first", mill.left(lot), (double) told[lot][2]);
        }
        Check.same("LOTS", mill.many(7), 2);
    }

    /** "LOTS: at most 10, numbered from 0" */
    private static void lotsAtMost() {
        TideMill mill = new TideMill();
        Check.raises(mill, "22: left(0) without LOTS", INDEX, () -> mill.left(0));
        for (int lot = 0; lot < 10; lot++) {
            int next = lot + 1;
            Check.same("11: lot()", mill.lot(3, 2, 60, 30), lot);
            Check.same("LOTS", mill.many(7), next);
            Check.same("22: left() of the last one", mill.left(lot), 60.0);
            String thrown = Check.thrownBy(() -> mill.left(next));
            Check.same("22: left() of the next one", thrown, "IndexOutOfBoundsException");
        }
        Check.raises(mill, "11: an eleventh lot()", STATE, () -> mill.lot(0, 0, 1, 0));
        Check.raises(mill, "11: of two the first", ARGUMENT, () -> mill.lot(0, 0, 0, 0));
        Check.same("LOTS", mill.many(7), 10);
        Check.same("24: WEIGHTS of all ten", mill.ofOwner(3, false), 600);
    }

    /** One that is GIVEN is still one of the 10. */
    private static void lotsAtMostWhenGiven() {
        TideMill mill = Mills.flooded();
        mill.pair();
        feedNew(mill, 0, 0, 1);
        for (int lot = 1; lot < 10; lot++) {
            mill.lot(1, 0, 1, 0);
        }
        mill.pass(1);
        Check.raises(mill, "11: one is DONE", STATE, () -> mill.lot(0, 0, 1, 0));
        mill.give(0);
        Check.raises(mill, "11: one is GIVEN", STATE, () -> mill.lot(0, 0, 1, 0));
        Check.same("LOTS", mill.many(7), 10);
    }

    /** "days: in how many DAYS it is DUE": from the DAY that is. */
    private static void dueDay() {
        int[] ticks = {0, 47, 48, 4991, 4992, 5000};
        int[] days = {0, 0, 1, 103, 104, 104};
        for (int i = 0; i < ticks.length; i++) {
            TideMill mill = Mills.at(ticks[i]);
            mill.lot(0, 0, 1, 0);
            mill.lot(0, 0, 1, 30);
            Check.same("DUE DAY on TICK " + ticks[i], mill.ofLot(0, 3), days[i]);
            Check.same("DUE DAY in 30 DAYS", mill.ofLot(1, 3), days[i] + 30);
        }
    }

    /** feed: "how many LOTS WAIT then", down to none. */
    private static void feedLastOne() {
        TideMill mill = new TideMill();
        layPairs(mill, 3);
        for (int lot = 0; lot < 3; lot++) {
            mill.lot(0, 0, 1, 0);
        }
        Check.same("12: feed(2, 0)", mill.feed(2, 0), 2);
        Check.same("12: feed(0, 2)", mill.feed(0, 2), 1);
        Check.same("12: feed(1, 1)", mill.feed(1, 1), 0);
        Check.same("those that WAIT", mill.many(8), 0);
    }

    /** feed: "or the PAIR has one, or a DRESSING": until that is 0. */
    private static void feedBesideADressing() {
        TideMill mill = new TideMill();
        layPairs(mill, 2);
        mill.lot(0, 0, 1, 0);
        mill.dress(0);
        for (int left = 3; left >= 1; left--) {
            Check.same("DRESSING", mill.ofPair(0, 1), left);
            Check.raises(mill, "12: with a DRESSING of " + left, STATE, () -> mill.feed(0, 0));
            Check.raises(mill, "14: with a DRESSING of " + left, STATE, () -> mill.dress(0));
            Check.raises(mill, "13: with a DRESSING of " + left, STATE, () -> mill.take(0));
            mill.pass(1);
        }
        Check.same("12: with none", mill.feed(0, 0), 0);
        Check.raises(mill, "14: with a LOT", STATE, () -> mill.dress(0));
        mill.take(0);
        Check.same("14: with neither", mill.dress(0), 3);
    }

    /** "To TAKE it off: the LOT WAITS again (LEFT stays)." */
    private static void takeAndFeed() {
        TideMill mill = Mills.flooded();
        layPairs(mill, 2);
        mill.lot(1, 0, 1, 0);
        feedNew(mill, 0, 1, 10);
        mill.pass(1);
        Check.same("LEFT", mill.left(1), 7.0);
        Check.same("13: take(0)", mill.take(0), 1);
        Check.same("STATE", mill.ofLot(1, 4), 0);
        Check.same("those that WAIT", mill.many(8), 2);
        Check.same("LEFT stays", mill.left(1), 7.0);
        Check.raises(mill, "13: take(0) once more", STATE, () -> mill.take(0));
        mill.hours(0, 0);
        mill.pass(1);
        Check.same("LEFT stays while it WAITS", mill.left(1), 7.0);
        Check.same("12: to the other PAIR", mill.feed(1, 1), 1);
        Check.same("its PAIR", mill.ofLot(1, 5), 1);
        mill.hours(0, 47);
        mill.pass(3);
        Check.same("it goes on from there, and is DONE", mill.ofLot(1, 4), 2);
        Check.same("LOTS that are DONE", mill.many(9), 1);
    }

    /** take: "Returns the LOT.", of ten each one. */
    private static void takeEach() {
        TideMill mill = new TideMill();
        layPairs(mill, 3);
        for (int lot = 0; lot < 10; lot++) {
            mill.lot(0, 0, 1, 0);
        }
        for (int lot = 0; lot < 10; lot++) {
            mill.feed(lot % 3, lot);
            Check.same("13: take(" + lot % 3 + ")", mill.take(lot % 3), lot);
            Check.same("those that WAIT", mill.many(8), 10);
        }
    }

    /** take: "if it has none": a LOT that is DONE is off by itself. */
    private static void takeOfDone() {
        TideMill mill = Mills.flooded();
        mill.pair();
        feedNew(mill, 0, 0, 4);
        mill.pass(1);
        Check.raises(mill, "13: take(0)", STATE, () -> mill.take(0));
        Check.same("it is still DONE", mill.ofLot(0, 4), 2);
        Check.raises(mill, "12: it does not WAIT", STATE, () -> mill.feed(0, 0));
    }

    /** "DRESSING is 3, and 8.0 times DULL (made double) rounded up (as ceil does)." */
    private static void dressRoundedUp() {
        for (int sparks = 0; sparks <= 9; sparks++) {
            for (int ground = 0; ground <= 1; ground++) {
                TideMill mill = Mills.flooded();
                mill.sluice(1);
                mill.pair();
                if (ground == 1) {
                    feedNew(mill, 0, 0, 4);
                    mill.pass(1);
                }
                for (int spark = 0; spark < sparks; spark++) {
                    mill.pass(1);
                }
                double dull = Math.min(1.0, ground * 0.015625 + sparks * 0.125);
                Check.same("DULL", mill.dull(0), dull);
                int due = sparks >= 8 ? 11 : 3 + sparks + ground;
                Check.same("14: dress() of DULL " + dull, mill.dress(0), due);
                Check.same("DRESSING", mill.ofPair(0, 1), due);
            }
        }
    }

    // ---- to GIVE

    /** A mill on a TICK from 95 on, with a LOT that was brought on DAY 1 and is DONE. */
    private static TideMill doneOn(int tick, int grain, int weight, int days) {
        TideMill mill = Mills.flooded();
        mill.pair();
        int lot = mill.lot(2, grain, weight, days);
        mill.feed(0, lot);
        for (int i = 0; i < 6 && mill.ofLot(lot, 4) != 2; i++) {
            mill.pass(3);
        }
        Mills.passMany(mill, tick - mill.many(0));
        Check.same("it is DONE", mill.ofLot(lot, 4), 2);
        Check.same("TICK", mill.many(0), tick);
        return mill;
    }

    /** "WEIGHT times 3, 2 or 1 (by GRAIN), divided by 4"; "What is whole is rounded down as it is divided." */
    private static void giveRoundedDown() {
        int[] weights = {1, 2, 3, 4, 5, 6, 7, 8, 59, 60};
        int[][] gains = {
            {0, 1, 2, 3, 3, 4, 5, 6, 44, 45}, {0, 1, 1, 2, 2, 3, 3, 4, 29, 30}, {0, 0, 0, 1, 1, 1, 1, 2, 14, 15},
        };
        for (int grain = 0; grain <= 2; grain++) {
            for (int i = 0; i < weights.length; i++) {
                TideMill mill = weights[i] > 8 ? bigDone(grain, weights[i]) : doneOn(95, grain, weights[i], 30);
                String what = "15: give() of " + weights[i] + " of GRAIN " + grain;
                Check.same(what, mill.give(0), gains[grain][i]);
                Check.same("PURSE", mill.many(12), gains[grain][i]);
                Check.same("TOLL", mill.pond(4), weights[i] / 16.0);
            }
        }
    }

    /** As doneOn(), for a LOT that takes more TICKS than one flood. */
    private static TideMill bigDone(int grain, int weight) {
        TideMill mill = new TideMill();
        mill.surge(8);
        mill.gates(3);
        mill.sluice(2);
        mill.pair();
        mill.lot(2, grain, weight, 30);
        mill.feed(0, 0);
        mill.pass(100);
        mill.pass(100);
        Check.same("it is DONE", mill.ofLot(0, 4), 2);
        return mill;
    }

    /** "less 1 for each DAY that DAY is above its DUE DAY then": not on that DAY, nor ahead of it. */
    private static void giveByDueDay() {
        int[] ticks = {95, 96, 143, 144, 191, 192, 5000};
        int[] late = {0, 0, 0, 1, 1, 2, 102};
        for (int i = 0; i < ticks.length; i++) {
            TideMill mill = doneOn(ticks[i], 0, 9, 1);
            Check.same("DUE DAY", mill.ofLot(0, 3), 2);
            Check.same("15: give() on TICK " + ticks[i], mill.give(0), 6 - late[i]);
            Check.same("PURSE", mill.many(12), 6 - late[i]);
        }
        Check.same("15: DUE on the DAY of bringing, given then", doneOn(95, 0, 9, 0).give(0), 6);
        Check.same("15: DUE on the DAY of bringing, given on the next", doneOn(96, 0, 9, 0).give(0), 5);
        Check.same("15: rounded down ahead of the DAYS", doneOn(96, 1, 1, 0).give(0), -1);
        Check.same("15: rounded down ahead of two DAYS", doneOn(144, 0, 1, 0).give(0), -2);
    }

    /** "The PURSE (0 at first; it may be below 0)", "TOLL (double; 0.0 at first)": both add up. */
    private static void purseBelowNothing() {
        TideMill mill = Mills.flooded();
        layPairs(mill, 3);
        feedNew(mill, 0, 2, 3);
        feedNew(mill, 1, 2, 4);
        feedNew(mill, 2, 0, 4);
        Check.same("all are DONE", mill.pass(1), 3);
        Check.same("PURSE at first", mill.many(12), 0);
        Check.same("TOLL at first", mill.pond(4), 0.0);
        mill.pass(21);
        Check.same("15: give(0), a DAY late", mill.give(0), -1);
        Check.same("PURSE", mill.many(12), -1);
        Check.same("TOLL", mill.pond(4), 0.1875);
        Check.same("15: give(1), a DAY late", mill.give(1), 0);
        Check.same("PURSE", mill.many(12), -1);
        Check.same("TOLL", mill.pond(4), 0.4375);
        Check.same("15: give(2), a DAY late", mill.give(2), 2);
        Check.same("PURSE", mill.many(12), 1);
        Check.same("TOLL", mill.pond(4), 0.6875);
        Check.raises(mill, "15: give(2) once more", STATE, () -> mill.give(2));
        Check.same("GIVEN", mill.many(10), 3);
    }

    /** ofOwner: "if owner is not 0 to 3"; "whether all LOTS of that count, otherwise those that are not GIVEN" */
    private static void owners() {
        TideMill mill = Mills.flooded();
        for (int owner = 0; owner <= 3; owner++) {
            Check.same("24: without LOTS", mill.ofOwner(owner, true), 0);
            Check.same("24: without LOTS", mill.ofOwner(owner, false), 0);
        }
        mill.pair();
        mill.lot(3, 0, 4, 0);
        mill.lot(3, 0, 60, 0);
        mill.lot(0, 0, 7, 0);
        mill.feed(0, 0);
        mill.pass(1);
        Check.same("24: one that is DONE counts", mill.ofOwner(3, false), 64);
        mill.give(0);
        Check.same("24: one that is GIVEN does not", mill.ofOwner(3, false), 60);
        Check.same("24: but among all", mill.ofOwner(3, true), 64);
        mill.feed(0, 1);
        Check.same("24: one at a PAIR counts", mill.ofOwner(3, false), 60);
        Check.same("24: OWNER 0", mill.ofOwner(0, false), 7);
        Check.same("24: OWNER 1", mill.ofOwner(1, true), 0);
        Check.raises(mill, "24: ofOwner(4, true)", INDEX, () -> mill.ofOwner(4, true));
        Check.raises(mill, "24: ofOwner(-1, false)", INDEX, () -> mill.ofOwner(-1, false));
    }

    /** "a STATE (0 WAITS, 1 at a PAIR, 2 DONE, 3 GIVEN)": each LOT is in one, and is counted there alone. */
    private static void states() {
        TideMill mill = Mills.flooded();
        layPairs(mill, 1);
        mill.lot(0, 0, 4, 0);
        mill.lot(0, 0, 4, 0);
        int[][] counts = {{2, 0, 0}, {1, 0, 0}, {1, 1, 0}, {1, 0, 1}, {0, 0, 1}};
        for (int step = 0; step < counts.length; step++) {
            switch (step) {
                case 1 -> mill.feed(0, 0);
                case 2 -> Check.same("16: DONE then", mill.pass(1), 1);
                case 3 -> mill.give(0);
                case 4 -> mill.feed(0, 1);
                default -> Check.same("STATE at first", mill.ofLot(0, 4), 0);
            }
            for (int what = 8; what <= 10; what++) {
                Check.same("23: many(" + what + ") in step " + step, mill.many(what), counts[step][what - 8]);
            }
            Check.same("21: STATE of LOT 0", mill.ofLot(0, 4), Math.min(step, 3));
        }
        Check.same("16: DONE, but not GIVEN", mill.pass(1), 1);
    }
}
