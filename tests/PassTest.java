/** Promise 16: what a TICK does, with numbers that were reckoned by hand. */
public final class PassTest {
    private static final Class<IllegalArgumentException> ARGUMENT = IllegalArgumentException.class;
    private static final Class<IllegalStateException> STATE = IllegalStateException.class;

    public static void main(String[] args) {
        wrongTicks();
        filling();
        wheel();
        scouring();
        grinding();
        sharing();
        sparking();
        dressing();
        asleep();
        eels();
        Check.finish("PassTest");
    }

    private static void wrongTicks() {
        TideMill mill = new TideMill();
        for (int wrong : new int[] {0, -1, 101, Integer.MIN_VALUE, Integer.MAX_VALUE}) {
            Check.raises(mill, "16: pass(" + wrong + ")", ARGUMENT, () -> mill.pass(wrong));
        }
        Check.same("16: pass(1)", mill.pass(1), 0);
        Check.same("16: TICK is 1", mill.many(0), 1);
        mill.pass(100);
        Check.same("16: TICK is 101", mill.many(0), 101);
        Mills.passMany(mill, 4850);
        Check.raises(mill, "16: TICK would be 5001", STATE, () -> mill.pass(50));
        Check.raises(mill, "16: TICK would be 5051", STATE, () -> mill.pass(100));
        Check.raises(mill, "16: of two the first", ARGUMENT, () -> mill.pass(101));
        Check.same("16: to TICK 5000", mill.pass(49), 0);
        Check.same("16: TICK is 5000", mill.many(0), 5000);
        Check.same("16: DAY is 104", mill.many(1), 104);
        Check.raises(mill, "16: beyond TICK 5000", STATE, () -> mill.pass(1));
    }

    private static void filling() {
        for (int gates = 0; gates <= 3; gates++) {
            TideMill mill = Mills.at(12);
            mill.gates(gates);
            mill.pass(1);
            Check.same("16 (1): LEVEL with GATES " + gates, mill.pond(0), gates / 8.0);
            Check.same("16 (1): SILT with GATES " + gates, mill.pond(1), gates / 64.0);
            Check.same("16 (1): AREA with GATES " + gates, mill.pond(2), 8.0 - gates / 64.0);
        }
        TideMill low = new TideMill();
        low.gates(3);
        low.pass(6);
        Check.same("16 (1): a SEA that is not above LEVEL", low.pond(0), 0.0);
        low.pass(1);
        Check.same("16 (1): SEA is 0.0 on TICK 6", low.pond(0), 0.0);
        low.pass(1);
        double sea = 0.0 + 4.0 * (7.0 / 12.0) - 2.0;
        Check.same("16 (1): SEA is above LEVEL on TICK 7", low.pond(0), 3 * sea * 0.5 / 8.0);

        TideMill twice = Mills.at(12);
        twice.gates(2);
        twice.pass(1);
        double second = 0.0 + 4.0 * ((24.75 - 13.0) / 12.75) - 2.0;
        double in = 2 * (second - 0.25) * 0.5;
        twice.pass(1);
        Check.same("16 (1): by the AREA before its SILT", twice.pond(0), 0.25 + in / (8.0 - 0.03125));
        Check.same("16 (1): SILT adds up", twice.pond(1), (double) (0.03125f + (float) in / 64f));

        TideMill silted = new TideMill();
        for (int i = 0; i < 200 && silted.pond(1) < 4.0; i++) {
            silted.surge(8);
            silted.gates(3);
            silted.pass(12);
            silted.gates(0);
            silted.surge(-8);
            silted.sluice(4);
            silted.pass(13);
        }
        Check.same("16 (1): SILT is 4f at most", silted.pond(1), 4.0);
        Check.same("16 (1): AREA then", silted.pond(2), 4.0);
    }

    private static void wheel() {
        double[] outs = {0.0, 0.3125, 0.625, 0.9375, 1.25};
        for (int sluice = 0; sluice <= 4; sluice++) {
            TideMill mill = Mills.filled(24);
            mill.sluice(sluice);
            mill.pass(1);
            double out = outs[sluice];
            Check.same("16 (2): FORCE with SLUICE " + sluice, mill.pond(3), out * 1.25);
            Check.same("16 (2): LEVEL with SLUICE " + sluice, mill.pond(0), 0.75 - out / 7.90625);
            mill.sluice(0);
            mill.pass(1);
            Check.same("16 (2): no FORCE without a SLUICE", mill.pond(3), 0.0);
        }
        TideMill high = Mills.filled(13);
        high.surge(0);
        high.sluice(4);
        high.pass(1);
        Check.same("16 (2): a SEA above LEVEL", high.pond(3), 0.0);
        Check.same("16 (2): LEVEL stays", high.pond(0), 0.75);

        // On TICK 36 PHASE is 11.25, and so the SEA 1.75 above its SURGE.
        TideMill above = Mills.filled(36);
        above.surge(-7);
        double sea = -1.75 + 4.0 * (11.25 / 12.0) - 2.0;
        Check.same("16 (2): the SEA of TICK 36", above.sea(0), sea);
        Check.same("16 (2): it is 0.0", sea, 0.0);
        above.sluice(2);
        above.pass(1);
        Check.same("16 (2): HEAD above the SEA", above.pond(3), 2 * 0.75 * 0.25 * 0.75);
        TideMill edge = Mills.filled(36);
        edge.surge(-6);
        edge.sluice(1);
        edge.pass(1);
        Check.same("16 (2): a HEAD of 0.5", edge.pond(3), 0.5 * 0.25 * 0.5);
        TideMill below = Mills.filled(36);
        below.surge(-5);
        below.sluice(4);
        below.pass(1);
        Check.same("16 (2): a HEAD of 0.25", below.pond(3), 0.0);
    }

    private static void scouring() {
        TideMill mill = Mills.filled(36);
        mill.scour(true);
        mill.surge(-7);
        mill.pass(1);
        Check.same("16 (3): LEVEL less SEA is 0.75", mill.pond(0), 0.75);
        Check.same("16 (3): SILT stays", mill.pond(1), 0.09375);
        TideMill edge = Mills.filled(36);
        edge.scour(true);
        edge.surge(-8);
        edge.pass(1);
        Check.same("16 (3): LEVEL less SEA is 1.0", edge.pond(0), 0.5);
        TideMill empty = new TideMill();
        empty.scour(true);
        empty.pass(2);
        Check.same("16 (3): LEVEL goes below 0.0", empty.pond(0), -0.5);
        Check.same("16 (3): SILT does not", empty.pond(1), 0.0);
        TideMill rich = Mills.flooded();
        rich.sluice(0);
        double silt = rich.pond(1);
        double level = rich.pond(0);
        rich.scour(true);
        rich.pass(1);
        Check.same("16 (3): LEVEL is 0.25 less", rich.pond(0), level - 0.25);
        Check.same("16 (3): SILT is 0.125f less", rich.pond(1), (double) ((float) silt - 0.125f));
        TideMill both = Mills.filled(24);
        both.scour(true);
        both.sluice(4);
        both.pass(1);
        Check.same("16 (3): behind the wheel", both.pond(0), 0.75 - 1.25 / 7.90625 - 0.25);
        Check.same("16 (3): the FORCE is that of before", both.pond(3), 1.5625);
    }

    private static void grinding() {
        double[] paces = {4.0, 3.0, 5.0};
        double[] dulls = {0.015625, 0.03125, 0.015625};
        for (int grain = 0; grain <= 2; grain++) {
            TideMill mill = Mills.strong();
            mill.pair();
            mill.lot(0, grain, 20, 0);
            mill.feed(0, 0);
            Check.same("16 (4): none DONE", mill.pass(1), 0);
            Check.same("16 (4): LEFT of GRAIN " + grain, mill.left(0), 20.0 - paces[grain]);
            Check.same("16 (4): DULL by GRAIN " + grain, mill.dull(0), dulls[grain]);
            Check.same("16 (4): no SPARKS with a LOT", mill.many(13), 0);
        }
        int[] just = {4, 3, 5};
        for (int grain = 0; grain <= 2; grain++) {
            TideMill mill = Mills.strong();
            mill.pair();
            mill.lot(0, grain, just[grain], 0);
            mill.lot(0, grain, just[grain], 0);
            mill.feed(0, 0);
            Check.same("16 (4): one DONE", mill.pass(1), 1);
            Check.same("16 (4): LEFT is 0.0", mill.left(0), 0.0);
            Check.same("16 (4): STATE is DONE", mill.ofLot(0, 4), 2);
            Check.same("16 (4): the PAIR has none", mill.ofPair(0, 0), -1);
            Check.same("16 (4): the LOT has no PAIR", mill.ofLot(0, 5), -1);
            Check.same("16 (4): the other one WAITS", mill.left(1), (double) just[grain]);
        }
        TideMill less = Mills.strong();
        less.pair();
        less.lot(0, 0, 1, 0);
        less.feed(0, 0);
        Check.same("16 (4): less than a TICK's work is DONE", less.pass(1), 1);
        Check.same("16 (4): LEFT is 0.0 at least", less.left(0), 0.0);
        Check.same("16 (4): DULL of a whole TICK", less.dull(0), 0.015625);
        Check.same("16 (4): GIVEN does not count as DONE", less.give(0) + less.pass(1), 0);
    }

    private static void sharing() {
        TideMill mill = Mills.strong();
        for (int pair = 0; pair < 3; pair++) {
            mill.pair();
            mill.lot(0, 0, 20, 0);
        }
        for (int pair = 0; pair < 3; pair++) {
            mill.feed(pair, 2 - pair);
        }
        mill.pass(1);
        Check.same("16 (4): FORCE of (2)", mill.pond(3), 1.5625);
        Check.same("16 (4): LEFT at the first PAIR", mill.left(2), 16.0);
        Check.same("16 (4): LEFT at the second PAIR", mill.left(1), 20.0 - 0.5625 * 4.0);
        Check.same("16 (4): LEFT at the third PAIR", mill.left(0), 20.0);
        Check.same("16 (4): DULL of the second PAIR", mill.dull(1), 0.5625 / 64.0);
        Check.same("16 (4): DULL of the third PAIR", mill.dull(2), 0.0);

        TideMill dull = Mills.flooded();
        dull.pair();
        dull.pass(1);
        dull.lot(0, 1, 60, 0);
        dull.feed(0, 0);
        dull.pass(1);
        Check.same("16 (4): all of NEED is got", dull.left(0), 57.0);
        Check.same("16 (4): DULL adds up", dull.dull(0), 0.125 + 0.03125);
        bluntGrinding();
    }

    /** A dull PAIR NEEDS more, and does less with what it gets. */
    private static void bluntGrinding() {
        TideMill mill = Mills.strong();
        mill.pair();
        mill.pass(1);
        mill.sluice(2);
        mill.lot(0, 0, 20, 0);
        mill.feed(0, 0);
        double head = mill.pond(0) + 0.5;
        mill.pass(1);
        double does = 2 * head * 0.25 * head / 1.125;
        Check.same("16 (4): DOES is below 1.0", does < 1.0, true);
        Check.same("16 (4): LEFT by NEED", mill.left(0), 20.0 - does * 4.0);
        Check.same("16 (4): DULL by DOES", mill.dull(0), (double) (0.125f + (float) does * 1f / 64f));

        TideMill dullest = Mills.flooded();
        dullest.pair();
        dullest.pass(8);
        dullest.lot(0, 1, 20, 0);
        dullest.feed(0, 0);
        double left = dullest.left(0);
        dullest.pass(1);
        Check.same("16 (4): it grinds", dullest.left(0) < left, true);
        Check.same("16 (4): DULL is 1f at most", dullest.dull(0), 1.0);
    }

    private static void sparking() {
        TideMill mill = Mills.strong();
        mill.pair();
        mill.pair();
        mill.pass(1);
        Check.same("16 (4): the first PAIR SPARKS", mill.ofPair(0, 2), 1);
        Check.same("16 (4): FORCE is 1.0 less", mill.ofPair(1, 2), 0);
        Check.same("16 (4): SPARKS ever", mill.many(13), 1);
        Check.same("16 (4): DULL of it", mill.dull(0), 0.125);
        Check.same("16 (4): DULL of the other", mill.dull(1), 0.0);

        TideMill behind = Mills.strong();
        behind.pair();
        behind.pair();
        behind.lot(0, 0, 60, 0);
        behind.feed(1, 0);
        behind.pass(1);
        Check.same("16 (4): what the SPARKS left", behind.left(0), 60.0 - 0.5625 * 4.0);

        TideMill freed = Mills.flooded();
        freed.pair();
        freed.lot(0, 0, 4, 0);
        freed.feed(0, 0);
        freed.pass(1);
        Check.same("16 (4): its LOT is DONE, there is no SPARK yet", freed.ofPair(0, 2), 0);
        freed.pass(1);
        Check.same("16 (4): one TICK later there is", freed.ofPair(0, 2), 1);

        TideMill edge = Mills.filled(36);
        edge.pair();
        edge.sluice(4);
        edge.pass(1);
        Check.same("16 (4): SEA is -0.25, and so HEAD and FORCE 1.0", edge.pond(3), 1.0);
        Check.same("16 (4): a FORCE of 1.0 makes no SPARK", edge.many(13), 0);

        TideMill weak = Mills.filled(24);
        weak.pair();
        weak.sluice(2);
        weak.pass(1);
        Check.same("16 (4): a FORCE of 0.78125 makes none", weak.many(13), 0);
    }

    private static void dressing() {
        TideMill mill = Mills.flooded();
        mill.pair();
        mill.pair();
        mill.dress(0);
        mill.pass(2);
        Check.same("16 (4): DRESSING is 1 less each", mill.ofPair(0, 1), 1);
        mill.pass(1);
        Check.same("16 (4): DRESSING is over", mill.ofPair(0, 1), 0);
        Check.same("16 (4): no SPARKS while DRESSED", mill.ofPair(0, 2), 0);
        Check.same("16 (4): DULL is 0f", mill.dull(0), 0.0);
        Check.same("16 (4): the other one SPARKS", mill.ofPair(1, 2), 3);
        Check.same("16 (4): DULL of the other one", mill.dull(1), 0.375);
        mill.pass(1);
        Check.same("16 (4): then it SPARKS again", mill.ofPair(0, 2), 1);
    }

    private static void asleep() {
        TideMill mill = Mills.strong();
        mill.pair();
        mill.pair();
        mill.pair();
        mill.lot(0, 0, 20, 0);
        mill.feed(0, 0);
        mill.dress(1);
        Check.same("16 (4): asleep on TICK 24", mill.hours(25, 23), false);
        mill.pass(1);
        Check.same("16 (4): the wheel turns", mill.pond(3), 1.5625);
        Check.same("16 (4): LEFT stays", mill.left(0), 20.0);
        Check.same("16 (4): DULL stays", mill.dull(0), 0.0);
        Check.same("16 (4): no SPARKS", mill.many(13), 0);
        Check.same("16 (4): DRESSING goes on", mill.ofPair(1, 1), 2);
        Check.same("16 (4): awake on TICK 25", mill.many(14), 1);
        mill.pass(1);
        Check.same("16 (4): LEFT goes on", mill.left(0) < 20.0, true);
    }

    /** How many EELS one TICK catches, on a TICK with a given AGE, with SLUICE. */
    private static int caught(int tick, int age, int sluice) {
        TideMill mill = Mills.filled(tick);
        mill.moon((age + 30 - tick / 48) % 30);
        mill.sluice(sluice);
        mill.pass(1);
        return mill.many(11);
    }

    private static void eels() {
        for (int age = 0; age <= 29; age++) {
            Check.same("16 (5): EELS of AGE " + age, caught(48, age, 4), age >= 13 && age <= 17 ? 4 : 0);
        }
        for (int sluice = 0; sluice <= 4; sluice++) {
            Check.same("16 (5): EELS of SLUICE " + sluice, caught(50, 15, sluice), sluice);
        }
        for (int tick = 48; tick <= 95; tick++) {
            int hour = tick - 48;
            Check.same("16 (5): EELS on TICK " + tick, caught(tick, 15, 2), hour < 12 || hour > 35 ? 2 : 0);
        }
        TideMill mill = Mills.filled(48);
        mill.moon(14);
        mill.sluice(3);
        mill.hours(20, 20);
        mill.pass(2);
        Check.same("16 (5): EELS add up, also asleep", mill.many(11), 6);
        mill.surge(8);
        mill.pass(1);
        Check.same("16 (5): no FORCE, no EELS", mill.many(11), 6);
        TideMill used = Mills.strong();
        used.sluice(0);
        used.pass(24);
        used.moon(14);
        used.pair();
        used.lot(0, 0, 60, 0);
        used.feed(0, 0);
        used.sluice(2);
        used.pass(1);
        Check.same("16 (5): the LOT got all of it", used.pond(3) < 1.0 && used.left(0) < 60.0, true);
        Check.same("16 (5): FORCE of (2) counts", used.many(11), 2);
    }
}
