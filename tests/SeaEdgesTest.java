/** The edges in "Terms" and "1. The sea": each method holds one sentence of the document, which its comment quotes. */
public final class SeaEdgesTest {
    private static final Class<IllegalArgumentException> ARGUMENT = IllegalArgumentException.class;

    public static void main(String[] args) {
        day();
        dayByOneTick();
        moonEnds();
        age();
        ageByOneTick();
        spring();
        range();
        phaseGoesRound();
        risen();
        surgeEnds();
        surgeAtFirst();
        everySea();
        seaAhead();
        seaAheadOfMidnight();
        seaAheadOnTheLastTick();
        seaAsTheyAre();
        high();
        highGoesRound();
        highIsNotTheHighest();
        highOnTheLastTick();
        Check.finish("SeaEdgesTest");
    }

    /** A mill whose AGE is 0 now, so that RANGE is 4.0. */
    private static TideMill atSpring(int tick) {
        TideMill mill = Mills.at(tick);
        mill.moon((30 - tick / 48 % 30) % 30);
        Check.same("AGE is 0 on TICK " + tick, mill.many(2), 0);
        return mill;
    }

    /** "TICK is 0 at first; 48 of them are a DAY (DAY is TICK / 48)." */
    private static void day() {
        int[] ticks = {0, 1, 47, 48, 95, 96, 4991, 4992, 4999, 5000};
        int[] days = {0, 0, 0, 1, 1, 2, 103, 104, 104, 104};
        for (int i = 0; i < ticks.length; i++) {
            TideMill mill = Mills.at(ticks[i]);
            Check.same("TICK", mill.many(0), ticks[i]);
            Check.same("DAY on TICK " + ticks[i], mill.many(1), days[i]);
        }
    }

    private static void dayByOneTick() {
        TideMill mill = Mills.at(46);
        mill.pass(1);
        Check.same("DAY on TICK 47", mill.many(1), 0);
        mill.pass(1);
        Check.same("DAY on TICK 48", mill.many(1), 1);
    }

    /** moon: "if age is not 0 to 29" */
    private static void moonEnds() {
        TideMill mill = new TideMill();
        Check.same("2: moon(0)", mill.moon(0), 0);
        Check.same("2: moon(29)", mill.moon(29), 29);
        Check.raises(mill, "2: moon(30)", ARGUMENT, () -> mill.moon(30));
        Check.raises(mill, "2: moon(-1)", ARGUMENT, () -> mill.moon(-1));
        Check.same("2: AGE is still 29", mill.many(2), 29);
        mill.pass(48);
        Check.same("2: and 0 a DAY later", mill.many(2), 0);
    }

    /** "AGE of the moon is (MOON and DAY, together) modulo 30 (MOON is 0 at first)." */
    private static void age() {
        int[][] cases = {
            {29, 0, 29}, {29, 47, 29}, {29, 48, 0}, {28, 48, 29}, {28, 95, 29}, {28, 96, 0}, {29, 96, 1},
            {0, 29 * 48, 29}, {0, 30 * 48 - 1, 29}, {0, 30 * 48, 0}, {1, 29 * 48, 0},
            {29, 30 * 48, 29}, {29, 31 * 48, 0},
            {0, 60 * 48 - 1, 29}, {0, 60 * 48, 0}, {29, 89 * 48, 28}, {0, 90 * 48, 0}, {0, 5000, 14}, {29, 5000, 13},
            {15, 5000, 29}, {16, 5000, 0},
        };
        for (int[] c : cases) {
            TideMill mill = Mills.at(c[1]);
            Check.same("AGE without a MOON on TICK " + c[1], mill.many(2), c[1] / 48 % 30);
            Check.same("2: moon(" + c[0] + ") on TICK " + c[1], mill.moon(c[0]), c[2]);
            Check.same("AGE then", mill.many(2), c[2]);
        }
    }

    private static void ageByOneTick() {
        TideMill mill = Mills.at(47);
        mill.moon(29);
        Check.same("SPRING of AGE 29", mill.many(3), 1);
        mill.pass(1);
        Check.same("AGE goes round", mill.many(2), 0);
        Check.same("SPRING of AGE 0", mill.many(3), 0);
        Check.same("RANGE of AGE 0", mill.pond(5), 4.0);
    }

    /** "SPRING is the smallest of AGE, 30 less AGE, and the difference of AGE and 15 (without its sign)." */
    private static void spring() {
        int[] springs = {
            0, 1, 2, 3, 4, 5, 6, 7, 7, 6, 5, 4, 3, 2, 1,
            0, 1, 2, 3, 4, 5, 6, 7, 7, 6, 5, 4, 3, 2, 1,
        };
        TideMill mill = new TideMill();
        for (int age = 0; age <= 29; age++) {
            mill.moon(age);
            Check.same("SPRING of AGE " + age, mill.many(3), springs[age]);
        }
    }

    /** "RANGE (double) is 4.0 less 0.25 times SPRING." The most at AGE 0 and 15, the least at 7, 8, 22 and 23. */
    private static void range() {
        int[] ages = {0, 1, 6, 7, 8, 9, 14, 15, 16, 21, 22, 23, 24, 29};
        double[] ranges = {4.0, 3.75, 2.5, 2.25, 2.25, 2.5, 3.75, 4.0, 3.75, 2.5, 2.25, 2.25, 2.5, 3.75};
        for (int i = 0; i < ages.length; i++) {
            TideMill mill = new TideMill();
            mill.moon(ages[i]);
            Check.same("RANGE of AGE " + ages[i], mill.pond(5), ranges[i]);
            Check.same("the lowest SEA of AGE " + ages[i], mill.sea(0), -ranges[i] / 2);
            Check.same("the highest SEA of AGE " + ages[i], mill.sea(12), ranges[i] / 2);
        }
    }

    /** "PHASE (double) is what is left of TICK by 24.75 (as % does)." */
    private static void phaseGoesRound() {
        int[] ticks = {0, 24, 25, 49, 50, 74, 75, 98, 99, 100, 4949, 4950, 4974, 4975};
        double[] phases = {0.0, 24.0, 0.25, 24.25, 0.5, 24.5, 0.75, 23.75, 0.0, 1.0, 24.75 - 1.0, 0.0, 24.0, 0.25};
        for (int i = 0; i < ticks.length; i++) {
            double phase = phases[i];
            double risen = phase < 12.0 ? phase / 12.0 : (24.75 - phase) / 12.75;
            Check.same("SEA on TICK " + ticks[i], atSpring(ticks[i]).sea(0), 0.0 + 4.0 * risen - 2.0);
        }
    }

    /** "RISEN (double) is PHASE / 12.0, if PHASE is below 12.0, otherwise (24.75 - PHASE) / 12.75." */
    private static void risen() {
        Check.same("PHASE 11.0", atSpring(11).sea(0), 4.0 * (11.0 / 12.0) - 2.0);
        Check.same("PHASE 11.75", atSpring(86).sea(0), 4.0 * (11.75 / 12.0) - 2.0);
        Check.same("PHASE 12.0", atSpring(12).sea(0), 2.0);
        Check.same("PHASE 12.25", atSpring(37).sea(0), 4.0 * (12.5 / 12.75) - 2.0);
        Check.same("PHASE 13.0", atSpring(13).sea(0), 4.0 * (11.75 / 12.75) - 2.0);
    }

    /** "SURGE (double) is told in quarters (-8 to 8 ..)." */
    private static void surgeEnds() {
        TideMill mill = new TideMill();
        Check.same("3: surge(-8)", mill.surge(-8), -4.0);
        Check.same("3: surge(8)", mill.surge(8), 0.0);
        Check.same("3: surge(-1)", mill.surge(-1), -2.25);
        Check.same("3: surge(1)", mill.surge(1), -1.75);
        Check.same("3: surge(7)", mill.surge(7), -0.25);
        Check.raises(mill, "3: surge(9)", ARGUMENT, () -> mill.surge(9));
        Check.raises(mill, "3: surge(-9)", ARGUMENT, () -> mill.surge(-9));
        Check.same("3: SURGE is still 1.75", mill.sea(0), -0.25);
    }

    /** SURGE is "0.0 at first". */
    private static void surgeAtFirst() {
        Check.same("SEA of a new mill", new TideMill().sea(0), -2.0);
        Check.same("3: surge(0) changes nothing then", new TideMill().surge(0), -2.0);
    }

    /** "SEA (double) is SURGE + RANGE * RISEN - RANGE * 0.5." On each TICK that can be asked for. */
    private static void everySea() {
        for (int from = 0; from <= 5000; from += 500) {
            TideMill mill = Mills.at(from);
            int moon = from / 100 % 30;
            int quarters = from / 500 - 4;
            mill.moon(moon);
            mill.surge(quarters);
            for (int ahead = from == 5000 ? 600 : 0; ahead < (from == 5000 ? 1000 : 400); ahead++) {
                double due = seaOn(from + ahead, moon, quarters / 4.0);
                Check.same("17: sea(" + ahead + ") on TICK " + from, mill.sea(ahead), due);
            }
        }
    }

    private static double seaOn(int tick, int moon, double surge) {
        int age = (moon + tick / 48) % 30;
        double range = 4.0 - 0.25 * Math.min(Math.min(age, 30 - age), Math.abs(age - 15));
        double phase = tick % 24.75;
        double risen = phase < 12.0 ? phase / 12.0 : (24.75 - phase) / 12.75;
        return surge + range * risen - range * 0.5;
    }

    /** sea: "if ahead is not 0 to 1000" */
    private static void seaAhead() {
        TideMill mill = new TideMill();
        Check.same("17: sea(0)", mill.sea(0), -2.0);
        Check.same("17: sea(1)", mill.sea(1), 4.0 * (1.0 / 12.0) - 2.0);
        Check.same("17: sea(999)", mill.sea(999), seaOn(999, 0, 0.0));
        Check.same("17: sea(1000)", mill.sea(1000), seaOn(1000, 0, 0.0));
        Check.raises(mill, "17: sea(1001)", ARGUMENT, () -> mill.sea(1001));
        Check.raises(mill, "17: sea(-1)", ARGUMENT, () -> mill.sea(-1));
    }

    /** "Returns the SEA on that TICK": by the RANGE of its DAY, whose AGE may have gone round. */
    private static void seaAheadOfMidnight() {
        TideMill mill = Mills.at(30);
        mill.moon(29);
        Check.same("17: TICK 47 is of AGE 29", mill.sea(17), 3.75 * ((24.75 - 22.25) / 12.75) - 1.875);
        Check.same("17: TICK 48 is of AGE 0", mill.sea(18), 4.0 * ((24.75 - 23.25) / 12.75) - 2.0);
        Check.same("17: TICK 95 is of AGE 0", mill.sea(65), 4.0 * ((24.75 - 20.75) / 12.75) - 2.0);
        Check.same("17: TICK 96 is of AGE 1", mill.sea(66), 3.75 * ((24.75 - 21.75) / 12.75) - 1.875);
    }

    /** It is asked for beyond TICK 5000 too: no exception is named for that. */
    private static void seaAheadOnTheLastTick() {
        TideMill mill = Mills.at(5000);
        Check.same("17: sea(0) on TICK 5000", mill.sea(0), seaOn(5000, 0, 0.0));
        Check.same("17: sea(1) on TICK 5000", mill.sea(1), seaOn(5001, 0, 0.0));
        Check.same("17: sea(1000) on TICK 5000", mill.sea(1000), seaOn(6000, 0, 0.0));
    }

    /** ".. with MOON and SURGE as they are." */
    private static void seaAsTheyAre() {
        TideMill mill = new TideMill();
        mill.moon(7);
        mill.surge(-3);
        Check.same("17: sea(12)", mill.sea(12), -0.75 + 1.125);
        mill.moon(15);
        Check.same("17: sea(12) of another MOON", mill.sea(12), -0.75 + 2.0);
        mill.surge(8);
        Check.same("17: sea(12) of another SURGE", mill.sea(12), 4.0);
    }

    /** high: "behind how many TICKS, the fewest (0 at least), PHASE is 12.0 or more, but below 13.0" */
    private static void high() {
        Check.same("25: PHASE 0.0", new TideMill().high(), 12);
        Check.same("25: PHASE 11.0", Mills.at(11).high(), 1);
        Check.same("25: PHASE 12.0", Mills.at(12).high(), 0);
        Check.same("25: PHASE 13.0", Mills.at(13).high(), 24);
        Check.same("25: PHASE 14.0", Mills.at(14).high(), 23);
        Check.same("25: PHASE 11.25", Mills.at(36).high(), 1);
        Check.same("25: PHASE 12.25", Mills.at(37).high(), 0);
        Check.same("25: PHASE 13.25", Mills.at(38).high(), 24);
        Check.same("25: PHASE 11.75", Mills.at(86).high(), 1);
        Check.same("25: PHASE 12.75", Mills.at(87).high(), 0);
        Check.same("25: PHASE 13.75", Mills.at(88).high(), 23);
        Check.same("25: PHASE 12.5", Mills.at(62).high(), 0);
    }

    /** The four PHASES of a turn come by in 99 TICKS, again and again. */
    private static void highGoesRound() {
        TideMill mill = new TideMill();
        for (int tick = 0; tick < 225; tick++) {
            int due = 0;
            while ((tick + due) * 4 % 99 < 48 || (tick + due) * 4 % 99 >= 52) {
                due++;
            }
            Check.same("25: high() on TICK " + tick, mill.high(), due);
            mill.pass(1);
        }
    }

    /** "(the tide turns; the SEA can be a little higher one TICK ahead of that)" */
    private static void highIsNotTheHighest() {
        TideMill mill = Mills.at(86);
        Check.same("25: the SEA is higher now", mill.sea(0) > mill.sea(1), true);
        Check.same("25: but the tide turns behind one TICK", mill.high(), 1);
    }

    private static void highOnTheLastTick() {
        TideMill mill = Mills.at(5000);
        Check.same("25: high() on TICK 5000 (PHASE 0.5)", mill.high(), 12);
        mill.moon(7);
        mill.surge(8);
        Check.same("25: MOON and SURGE don't matter", mill.high(), 12);
    }
}
