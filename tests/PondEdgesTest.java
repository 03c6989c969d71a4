/**
 * The edges in "2. The pond" but for its PAIRS and LOTS: GATES, SLUICE, SCOUR, LOCK and BELL, HOURS, and steps (1),
 * (2), (3), (5) and (6) of a TICK. Each method holds one sentence of the document, which its comment quotes.
 */
public final class PondEdgesTest {
    private static final Class<IllegalArgumentException> ARGUMENT = IllegalArgumentException.class;
    private static final Class<IllegalStateException> STATE = IllegalStateException.class;

    public static void main(String[] args) {
        gatesEnds();
        gatesLocked();
        gatesStayAsTheyAre();
        othersWhileLocked();
        bell();
        bellAndGates();
        sluiceEnds();
        hoursEnds();
        hoursAtFirst();
        hoursWithBoth();
        hoursOverMidnight();
        fillWithoutGates();
        fillBySeaAndLevel();
        siltAtMost();
        siltAtMostInOneTick();
        headBySea();
        headOfHalf();
        wheelWithoutSluice();
        forceOtherwise();
        scourShut();
        scourOfOne();
        scourBySea();
        scourBehindTheWheel();
        siltAtLeast();
        eelsByAge();
        eelsByTick();
        eelsOverMidnight();
        eelsByForce();
        lastTick();
        ticksAtOnce();
        Check.finish("PondEdgesTest");
    }

    /** A mill on TICK 36 (PHASE 11.25), with LEVEL 0.75; SEA is SURGE + 0.4375 * RANGE, so SURGE + 1.75 at spring. */
    private static TideMill on36(int moon, int quarters) {
        TideMill mill = Mills.filled(36);
        mill.moon(moon);
        mill.surge(quarters);
        Check.same("SEA on TICK 36", mill.sea(0), quarters * 0.25 + 0.4375 * mill.pond(5));
        return mill;
    }

    // ---- GATES, LOCK, BELL, SLUICE

    /** "GATES (0 to 3; 0 at first) are open to the sea" */
    private static void gatesEnds() {
        TideMill mill = new TideMill();
        Check.same("4: gates(3), it was 0 at first", mill.gates(3), 0);
        Check.raises(mill, "4: gates(4)", ARGUMENT, () -> mill.gates(4));
        Check.raises(mill, "4: gates(-1)", ARGUMENT, () -> mill.gates(-1));
        Check.same("4: gates(0), it was still 3", mill.gates(0), 3);
        Check.same("4: gates(0) again", mill.gates(0), 0);
    }

    /** ".. they cannot be told while the gatehouse is LOCKED (it is not at first)" */
    private static void gatesLocked() {
        TideMill mill = new TideMill();
        Check.same("4: not LOCKED at first", mill.gates(2), 0);
        Check.same("8: lock(true)", mill.lock(true), false);
        Check.raises(mill, "4: gates(2), the same", STATE, () -> mill.gates(2));
        Check.raises(mill, "4: gates(0)", STATE, () -> mill.gates(0));
        Check.raises(mill, "4: gates(3)", STATE, () -> mill.gates(3));
        Check.same("8: lock(true) again", mill.lock(true), true);
        Check.raises(mill, "4: gates(3), LOCKED twice", STATE, () -> mill.gates(3));
        Check.raises(mill, "4: gates(4) of two the first", ARGUMENT, () -> mill.gates(4));
        Check.raises(mill, "4: gates(-1) of two the first", ARGUMENT, () -> mill.gates(-1));
        Check.same("8: lock(false) once is enough", mill.lock(false), true);
        Check.same("8: lock(false) again", mill.lock(false), false);
        Check.same("4: gates(3)", mill.gates(3), 2);
    }

    /** ".. and stay as they are": open ones fill the pond on. */
    private static void gatesStayAsTheyAre() {
        TideMill mill = Mills.at(12);
        mill.gates(2);
        mill.lock(true);
        Check.raises(mill, "4: gates(0)", STATE, () -> mill.gates(0));
        mill.pass(1);
        Check.same("LEVEL of 2 GATES", mill.pond(0), 0.25);
        Check.same("GATES", mill.many(4), 2);
    }

    /** Only of GATES does the document say that they cannot be told while it is LOCKED. */
    private static void othersWhileLocked() {
        TideMill mill = new TideMill();
        mill.lock(true);
        Check.same("5: sluice(4)", mill.sluice(4), 0);
        Check.same("5: sluice(0)", mill.sluice(0), 4);
        Check.same("6: scour(true)", mill.scour(true), false);
        Check.same("6: scour(false)", mill.scour(false), true);
        Check.same("7: hours(0, 0)", mill.hours(0, 0), true);
        Check.same("2: moon(29)", mill.moon(29), 29);
        Check.same("3: surge(1)", mill.surge(1), 0.25 - 1.875);
        Check.same("16: pass(1)", mill.pass(1), 0);
        Check.same("it is still LOCKED", mill.many(16), 1);
    }

    /** "The gatehouse has a BELL: who rings it holds nothing, and is REFUSED, LOCKED or not." */
    private static void bell() {
        TideMill mill = new TideMill();
        Check.same("REFUSED at first", mill.many(15), 0);
        Check.same("9: bell() not LOCKED", mill.bell(), 1);
        mill.lock(true);
        Check.same("9: bell() LOCKED", mill.bell(), 2);
        Check.same("it is LOCKED as before", mill.lock(false), true);
        Check.same("9: bell() not LOCKED again", mill.bell(), 3);
        Check.same("it is not LOCKED as before", mill.lock(false), false);
        // To the 512th call of this object: no later one is promised.
        for (int rung = 4; rung <= 507; rung++) {
            Check.same("9: bell()", mill.bell(), rung);
        }
        Check.same("REFUSED", mill.many(15), 507);
    }

    /** bell: "how many were REFUSED ever, with this": who tells GATES is thrown back, but rings no BELL. */
    private static void bellAndGates() {
        TideMill mill = new TideMill();
        mill.lock(true);
        for (int gates = -1; gates <= 4; gates++) {
            int told = gates;
            Check.same("4: gates(" + told + ")", Check.thrownBy(() -> mill.gates(told)),
                    told < 0 || told > 3 ? "IllegalArgumentException" : "IllegalStateException");
        }
        Check.same("REFUSED", mill.many(15), 0);
        Check.same("9: bell()", mill.bell(), 1);
        Check.same("GATES", mill.many(4), 0);
    }

    /** "SLUICE (0 to 4; 0 at first) is that of the wheel" */
    private static void sluiceEnds() {
        TideMill mill = new TideMill();
        Check.same("5: sluice(4), it was 0 at first", mill.sluice(4), 0);
        Check.raises(mill, "5: sluice(5)", ARGUMENT, () -> mill.sluice(5));
        Check.raises(mill, "5: sluice(-1)", ARGUMENT, () -> mill.sluice(-1));
        Check.same("5: sluice(0), it was still 4", mill.sluice(0), 4);
        Check.same("5: sluice(0) again", mill.sluice(0), 0);
    }

    // ---- HOURS

    /** hours: "if from or to is not 0 to 47" */
    private static void hoursEnds() {
        TideMill mill = new TideMill();
        Check.same("7: hours(0, 0)", mill.hours(0, 0), true);
        Check.same("7: hours(47, 47)", mill.hours(47, 47), false);
        Check.same("7: hours(0, 47)", mill.hours(0, 47), true);
        Check.same("7: hours(47, 0)", mill.hours(47, 0), true);
        mill.hours(5, 6);
        Check.raises(mill, "7: hours(48, 0)", ARGUMENT, () -> mill.hours(48, 0));
        Check.raises(mill, "7: hours(0, 48)", ARGUMENT, () -> mill.hours(0, 48));
        Check.raises(mill, "7: hours(-1, 47)", ARGUMENT, () -> mill.hours(-1, 47));
        Check.raises(mill, "7: hours(0, -1)", ARGUMENT, () -> mill.hours(0, -1));
        int[] awake = {0, 0, 0, 0, 0, 1, 1, 0};
        for (int tick = 0; tick < awake.length; tick++) {
            Check.same("HOURS are still 5 to 6 on TICK " + tick, mill.many(14), awake[tick]);
            mill.pass(1);
        }
    }

    /** HOURS are "0 to 47 at first". */
    private static void hoursAtFirst() {
        TideMill mill = new TideMill();
        for (int tick = 0; tick <= 96; tick++) {
            Check.same("AWAKE on TICK " + tick, mill.many(14), 1);
            mill.pass(1);
        }
    }

    /** "0 to 47, both with", and "if TICK modulo 48 is in these": on the next DAYS as well. */
    private static void hoursWithBoth() {
        int[] ticks = {9, 10, 11, 20, 21, 47, 48, 57, 58, 68, 69, 4991, 4992, 4992 + 7};
        int[] awake = {0, 1, 1, 1, 0, 0, 0, 0, 1, 1, 0, 0, 0, 0};
        for (int i = 0; i < ticks.length; i++) {
            TideMill mill = Mills.at(ticks[i]);
            Check.same("7: hours(10, 20) on TICK " + ticks[i], mill.hours(10, 20), awake[i] == 1);
            Check.same("23: many(14)", mill.many(14), awake[i]);
        }
        for (int hour = 0; hour <= 47; hour++) {
            TideMill mill = Mills.at(48 + hour);
            Check.same("7: one TICK alone", mill.hours(hour, hour), true);
            Check.same("7: to this one", mill.hours(hour > 0 ? hour - 1 : 47, hour), true);
            Check.same("7: from this one", mill.hours(hour, (hour + 1) % 48), true);
            Check.same("7: the one ahead", mill.hours((hour + 47) % 48, (hour + 47) % 48), false);
            Check.same("7: the one behind", mill.hours((hour + 1) % 48, (hour + 1) % 48), false);
            Check.same("7: all but this one", mill.hours((hour + 1) % 48, (hour + 47) % 48), false);
            Check.same("23: many(14)", mill.many(14), 0);
        }
    }

    /** "if the first one is above the last one, over midnight" */
    private static void hoursOverMidnight() {
        TideMill mill = Mills.at(40);
        mill.hours(46, 2);
        for (int tick = 40; tick <= 150; tick++) {
            int hour = tick % 48;
            Check.same("HOURS 46 to 2 on TICK " + tick, mill.many(14), hour >= 46 || hour <= 2 ? 1 : 0);
            mill.pass(1);
        }
        TideMill next = Mills.at(46);
        next.hours(1, 0);
        for (int tick = 46; tick <= 100; tick++) {
            Check.same("HOURS 1 to 0 on TICK " + tick, next.many(14), 1);
            next.pass(1);
        }
    }

    // ---- (1)

    /** "With GATES above 0 ..": none is open, and the SEA stays outside. */
    private static void fillWithoutGates() {
        TideMill mill = Mills.at(12);
        mill.surge(8);
        mill.pass(1);
        Check.same("LEVEL without GATES", mill.pond(0), 0.0);
        Check.same("SILT without GATES", mill.pond(1), 0.0);
        TideMill one = Mills.at(12);
        one.surge(8);
        one.gates(1);
        one.pass(1);
        Check.same("LEVEL with one", one.pond(0), 0.25);
        Check.same("SILT with one", one.pond(1), 2.0 / 64.0);
    }

    /** ".. and SEA above LEVEL" */
    private static void fillBySeaAndLevel() {
        TideMill below = on36(0, -5);
        below.gates(3);
        below.pass(1);
        Check.same("SEA is 0.25 below LEVEL", below.pond(0), 0.75);
        Check.same("SILT then", below.pond(1), 0.09375);
        TideMill same = on36(0, -4);
        same.gates(3);
        same.pass(1);
        Check.same("SEA is LEVEL", same.pond(0), 0.75);
        Check.same("SILT then", same.pond(1), 0.09375);
        TideMill just = Mills.filled(122, 5, 7);
        double in = 3 * (just.sea(0) - 0.75) * 0.5;
        Check.same("SEA is just above LEVEL", in > 0.0 && in < 0.004, true);
        just.gates(3);
        just.pass(1);
        Check.same("SEA just above LEVEL, LEVEL then", just.pond(0), 0.75 + in / 7.90625);
        Check.same("SEA just above LEVEL, SILT then", just.pond(1), (double) (0.09375f + (float) in / 64f));
        TideMill above = on36(0, -3);
        above.gates(3);
        above.pass(1);
        Check.same("SEA is 0.25 above LEVEL", above.pond(0), 0.75 + 0.375 / 7.90625);
        Check.same("SILT then", above.pond(1), 0.09375 + 0.375 / 64.0);
    }

    /** A mill whose SILT has grown for 375 TICKS, or for 400: then it is 4f. */
    private static TideMill silted(int rounds) {
        TideMill mill = new TideMill();
        mill.gates(3);
        mill.sluice(4);
        for (int round = 0; round < rounds; round++) {
            mill.surge(8);
            mill.pass(12);
            mill.surge(-8);
            mill.pass(13);
        }
        return mill;
    }

    /** "SILT is (float) IN / 64f more (4f at most)" */
    private static void siltAtMost() {
        TideMill mill = silted(30);
        Check.same("SILT is 4f at most", mill.pond(1), 4.0);
        Check.same("AREA is 4.0 at least", mill.pond(2), 4.0);
        mill.surge(8);
        mill.sluice(0);
        double level = mill.pond(0);
        double in = 3 * (mill.sea(0) - level) * 0.5;
        Check.same("there is an IN", in > 0.0, true);
        mill.pass(1);
        Check.same("SILT stays 4f", mill.pond(1), 4.0);
        Check.same("LEVEL by an AREA of 4.0", mill.pond(0), level + in / 4.0);
    }

    /** The TICK on which the 4f are reached takes no more than these, and goes by the AREA that was ahead of it. */
    private static void siltAtMostInOneTick() {
        TideMill mill = silted(15);
        mill.surge(8);
        mill.sluice(0);
        double most = 0.0;
        for (int tick = 0; tick < 12; tick++) {
            double level = mill.pond(0);
            double area = mill.pond(2);
            double in = Math.max(0.0, 3 * (mill.sea(0) - level) * 0.5);
            float sum = (float) mill.pond(1) + (float) in / 64f;
            mill.pass(1);
            Check.same("SILT behind the TICK", mill.pond(1), (double) Math.min(4f, sum));
            Check.same("LEVEL behind the TICK", mill.pond(0), level + in / area);
            most = area > 4.0 ? Math.max(most, sum) : most;
        }
        Check.same("SILT would be above 4f on the TICK that reached it", most > 4.0, true);
    }

    // ---- (2)

    /** "HEAD (double) is LEVEL less the greater one of SEA and -0.5." On TICK 33 SEA is SURGE + 0.75. */
    private static void headBySea() {
        double[] heads = {1.25, 1.25, 1.25, 1.25, 1.0, 0.75, 0.5};
        for (int i = 0; i < heads.length; i++) {
            TideMill mill = Mills.filled(33);
            mill.surge(i - 8);
            Check.same("SEA on TICK 33", mill.sea(0), -1.25 + 0.25 * i);
            mill.sluice(4);
            mill.pass(1);
            Check.same("FORCE of HEAD " + heads[i], mill.pond(3), heads[i] * heads[i]);
            Check.same("LEVEL of HEAD " + heads[i], mill.pond(0), 0.75 - heads[i] / 7.90625);
        }
        TideMill above = Mills.filled(122, 5, 2);
        double sea = above.sea(0);
        Check.same("SEA is just above -0.5", sea > -0.5 && sea < -0.497, true);
        above.sluice(4);
        above.pass(1);
        Check.same("FORCE, SEA just above -0.5", above.pond(3), (0.75 - sea) * (0.75 - sea));
        TideMill below = Mills.filled(161, 3, -8);
        Check.same("SEA is just below -0.5", below.sea(0) < -0.5 && below.sea(0) > -0.503, true);
        below.sluice(4);
        below.pass(1);
        Check.same("FORCE, SEA just below -0.5", below.pond(3), 1.5625);
    }

    /** "With .. a HEAD of 0.5 or more" */
    private static void headOfHalf() {
        TideMill half = on36(0, -6);
        half.sluice(1);
        half.pass(1);
        Check.same("HEAD is 0.5", half.pond(3), 0.0625);
        Check.same("LEVEL of HEAD 0.5", half.pond(0), 0.75 - 0.125 / 7.90625);
        TideMill less = on36(2, -5);
        Check.same("HEAD is 0.46875", 0.75 - less.sea(0), 0.46875);
        less.sluice(4);
        less.pass(1);
        Check.same("HEAD 0.46875, FORCE", less.pond(3), 0.0);
        Check.same("HEAD 0.46875, LEVEL", less.pond(0), 0.75);
        TideMill least = Mills.filled(122, 5, 5);
        double head = 0.75 - least.sea(0);
        Check.same("HEAD is just below 0.5", head > 0.497 && head < 0.5, true);
        least.sluice(4);
        least.pass(1);
        Check.same("HEAD just below 0.5, FORCE", least.pond(3), 0.0);
        Check.same("HEAD just below 0.5, LEVEL", least.pond(0), 0.75);
        TideMill more = on36(7, -3);
        Check.same("HEAD is 0.515625", 0.75 - more.sea(0), 0.515625);
        more.sluice(4);
        more.pass(1);
        Check.same("HEAD 0.515625, FORCE", more.pond(3), 0.515625 * 0.515625);
    }

    /** "With SLUICE above 0 .." */
    private static void wheelWithoutSluice() {
        TideMill mill = on36(0, -8);
        mill.pass(1);
        Check.same("FORCE without a SLUICE", mill.pond(3), 0.0);
        Check.same("LEVEL without a SLUICE", mill.pond(0), 0.75);
        TideMill one = on36(0, -8);
        one.sluice(1);
        one.pass(1);
        Check.same("FORCE of SLUICE 1", one.pond(3), 0.25);
        Check.same("LEVEL of SLUICE 1", one.pond(0), 0.75 - 0.25 / 7.90625);
    }

    /** "Otherwise FORCE is 0.0." and pond: "the FORCE of (2) on the TICK that went by last (0.0 at first)" */
    private static void forceOtherwise() {
        TideMill mill = on36(0, -8);
        Check.same("18: FORCE at first", mill.pond(3), 0.0);
        mill.sluice(4);
        Check.same("18: no TICK went by", mill.pond(3), 0.0);
        mill.pass(1);
        Check.same("18: FORCE", mill.pond(3), 1.0);
        mill.surge(8);
        mill.sluice(0);
        Check.same("18: still that of the last TICK", mill.pond(3), 1.0);
        mill.sluice(4);
        mill.pass(1);
        Check.same("18: the SEA is too high", mill.pond(3), 0.0);
    }

    // ---- (3)

    /** "the SCOUR is shut at first" */
    private static void scourShut() {
        TideMill mill = on36(0, -8);
        mill.pass(1);
        Check.same("LEVEL, SCOUR shut at first", mill.pond(0), 0.75);
        Check.same("SILT, SCOUR shut at first", mill.pond(1), 0.09375);
        Check.same("6: scour(true)", mill.scour(true), false);
        Check.same("6: scour(false)", mill.scour(false), true);
        mill.surge(-8);
        mill.pass(12);
        Check.same("LEVEL, SCOUR shut again", mill.pond(0), 0.75);
    }

    /** "With the SCOUR open, and LEVEL less SEA 1.0 or more: LEVEL is 0.25 less, SILT 0.125f less" */
    private static void scourOfOne() {
        TideMill one = on36(0, -8);
        one.scour(true);
        one.pass(1);
        Check.same("LEVEL less SEA is 1.0, LEVEL", one.pond(0), 0.5);
        Check.same("LEVEL less SEA is 1.0, SILT", one.pond(1), 0.0);
        TideMill less = on36(2, -7);
        Check.same("LEVEL less SEA is 0.96875", 0.75 - less.sea(0), 0.96875);
        less.scour(true);
        less.pass(1);
        Check.same("LEVEL less SEA is below 1.0, LEVEL", less.pond(0), 0.75);
        Check.same("LEVEL less SEA is below 1.0, SILT", less.pond(1), 0.09375);
        TideMill least = Mills.filled(122, 5, 3);
        double over = 0.75 - least.sea(0);
        Check.same("LEVEL less SEA is just below 1.0", over > 0.997 && over < 1.0, true);
        least.scour(true);
        least.pass(1);
        Check.same("LEVEL less SEA just below 1.0, LEVEL", least.pond(0), 0.75);
    }

    /** It is the SEA itself that (3) takes, not the -0.5 of (2). LEVEL may go below 0.0, as no least one is told. */
    private static void scourBySea() {
        TideMill mill = new TideMill();
        mill.scour(true);
        double[] levels = {-0.25, -0.5, -0.5, -0.5};
        for (int tick = 0; tick < levels.length; tick++) {
            mill.pass(1);
            Check.same("LEVEL behind TICK " + tick, mill.pond(0), levels[tick]);
            Check.same("SILT behind TICK " + tick, mill.pond(1), 0.0);
        }
    }

    /** (3) follows (2): the LEVEL that the wheel left is too low. */
    private static void scourBehindTheWheel() {
        TideMill mill = on36(0, -8);
        mill.scour(true);
        mill.sluice(1);
        mill.pass(1);
        Check.same("LEVEL", mill.pond(0), 0.75 - 0.25 / 7.90625);
        Check.same("SILT", mill.pond(1), 0.09375);
    }

    /** "SILT 0.125f less (0f at least)" */
    private static void siltAtLeast() {
        TideMill below = on36(0, -8);
        below.scour(true);
        below.pass(1);
        Check.same("SILT of 0.09375", below.pond(1), 0.0);
        Check.same("AREA then", below.pond(2), 8.0);

        // IN is 2.0: SILT is 0.125, and LEVEL above 1.0.
        TideMill just = on36(0, 4);
        just.gates(2);
        just.pass(1);
        Check.same("SILT of 0.125", just.pond(1), 0.125);
        double level = just.pond(0);
        just.gates(0);
        just.surge(-8);
        just.scour(true);
        just.pass(1);
        Check.same("SILT of 0.125, scoured", just.pond(1), 0.0);
        Check.same("LEVEL, scoured", just.pond(0), level - 0.25);

        TideMill above = on36(0, 8);
        above.gates(2);
        above.pass(1);
        Check.same("SILT of 0.140625", above.pond(1), 0.140625);
        above.gates(0);
        above.surge(-8);
        above.scour(true);
        above.pass(1);
        Check.same("SILT of 0.140625, scoured", above.pond(1), 0.015625);
        above.pass(1);
        Check.same("SILT of 0.015625, scoured", above.pond(1), 0.0);
    }

    // ---- (5)

    private static int caught(int tick, int age, int sluice) {
        TideMill mill = Mills.filled(tick);
        mill.moon((age + 30 - tick / 48) % 30);
        mill.sluice(sluice);
        mill.pass(1);
        return mill.many(11);
    }

    /** "AGE is 13 to 17" */
    private static void eelsByAge() {
        Check.same("EELS of AGE 12", caught(48, 12, 3), 0);
        Check.same("EELS of AGE 13", caught(48, 13, 3), 3);
        Check.same("EELS of AGE 17", caught(48, 17, 3), 3);
        Check.same("EELS of AGE 18", caught(48, 18, 3), 0);
        Check.same("EELS of AGE 0", caught(48, 0, 3), 0);
    }

    /** "TICK modulo 48 is below 12 or above 35" */
    private static void eelsByTick() {
        Check.same("EELS on TICK 35", caught(35, 15, 1), 0);
        Check.same("EELS on TICK 36", caught(36, 15, 1), 1);
        Check.same("EELS on TICK 47", caught(47, 15, 1), 1);
        Check.same("EELS on TICK 48", caught(48, 15, 1), 1);
        Check.same("EELS on TICK 59", caught(59, 15, 1), 1);
        Check.same("EELS on TICK 60", caught(60, 15, 1), 0);
        Check.same("EELS on TICK 83", caught(83, 15, 1), 0);
        Check.same("EELS on TICK 84", caught(84, 15, 1), 1);
    }

    /** EELS are "more": they add up. The AGE is that of the TICK that goes by: over midnight it is another one. */
    private static void eelsOverMidnight() {
        TideMill both = Mills.filled(47);
        both.moon(15);
        both.sluice(2);
        both.pass(1);
        both.sluice(1);
        both.pass(1);
        Check.same("AGE 15 on TICK 47, 16 on TICK 48", both.many(11), 3);
        TideMill first = Mills.filled(47);
        first.moon(12);
        first.sluice(2);
        first.pass(1);
        Check.same("AGE 12 on TICK 47", first.many(11), 0);
        first.pass(1);
        Check.same("AGE 13 on TICK 48", first.many(11), 2);
        TideMill last = Mills.filled(95);
        last.moon(16);
        last.sluice(2);
        last.pass(2);
        Check.same("AGE 17 on TICK 95, 18 on TICK 96", last.many(11), 2);
    }

    /** "If there was a FORCE above 0.0 in (2) ..: EELS are SLUICE more." */
    private static void eelsByForce() {
        TideMill none = on36(15, -4);
        none.sluice(4);
        none.pass(1);
        Check.same("EELS of a FORCE of 0.0", none.many(11), 0);
        TideMill some = on36(15, -6);
        some.sluice(4);
        some.pass(1);
        Check.same("EELS of a FORCE of 0.25", some.many(11), 4);
        TideMill shut = on36(15, -8);
        shut.pass(1);
        Check.same("EELS of SLUICE 0", shut.many(11), 0);
        TideMill spent = on36(15, -8);
        spent.pair();
        spent.lot(0, 0, 60, 0);
        spent.feed(0, 0);
        spent.sluice(4);
        spent.pass(1);
        Check.same("the LOT got all the FORCE", spent.left(0), 56.0);
        Check.same("EELS of what there was in (2)", spent.many(11), 4);
    }

    // ---- (6), and pass

    /** pass: "if TICK would be above 5000" */
    private static void lastTick() {
        TideMill mill = Mills.at(4900);
        Check.same("16: pass(100) to TICK 5000", mill.pass(100), 0);
        Check.same("TICK", mill.many(0), 5000);
        Check.raises(mill, "16: pass(1)", STATE, () -> mill.pass(1));
        TideMill above = Mills.at(4901);
        Check.raises(above, "16: pass(100) to TICK 5001", STATE, () -> above.pass(100));
        Check.same("TICK stays", above.many(0), 4901);
        Check.same("16: pass(98)", above.pass(98), 0);
        Check.raises(above, "16: pass(2) to TICK 5001", STATE, () -> above.pass(2));
        Check.same("16: pass(1) to TICK 5000", above.pass(1), 0);
        Check.raises(above, "16: pass(0) of two the first", ARGUMENT, () -> above.pass(0));
        Check.raises(above, "16: pass(101) of two the first", ARGUMENT, () -> above.pass(101));
    }

    /** pass: "if ticks is not 1 to 100"; many at once are as one by one. */
    private static void ticksAtOnce() {
        TideMill once = on36(13, 2);
        TideMill each = on36(13, 2);
        for (TideMill mill : new TideMill[] {once, each}) {
            mill.gates(1);
            mill.sluice(2);
            mill.scour(true);
            mill.pair();
            mill.pair();
            mill.lot(0, 2, 30, 0);
            mill.feed(0, 0);
        }
        int done = once.pass(100);
        int doneEach = 0;
        for (int tick = 0; tick < 100; tick++) {
            doneEach = each.pass(1);
        }
        Check.same("16: pass(100)", done, doneEach);
        Check.same("all of it", Portrait.of(once), Portrait.of(each));
        Check.raises(once, "16: pass(101)", ARGUMENT, () -> once.pass(101));
        Check.raises(once, "16: pass(0)", ARGUMENT, () -> once.pass(0));
        Check.same("TICK", once.many(0), 136);
    }
}
