/** Mills in states whose numbers can be reckoned by hand. */
final class Mills {
    private Mills() {
    }

    static void passMany(TideMill mill, int ticks) {
        int rest = ticks;
        while (rest > 0) {
            int some = Math.min(rest, 100);
            mill.pass(some);
            rest -= some;
        }
    }

    static TideMill at(int tick) {
        TideMill mill = new TideMill();
        passMany(mill, tick);
        return mill;
    }

    /**
     * A mill on a TICK from 13 on, gates shut, SURGE -2.0, SLUICE 0, with
     * LEVEL 0.75 and SILT 0.09375: one TICK of 3 GATES with a SEA of 4.0 (IN is 6.0).
     */
    static TideMill filled(int tick) {
        TideMill mill = at(12);
        mill.surge(8);
        mill.gates(3);
        mill.pass(1);
        mill.gates(0);
        mill.surge(-8);
        passMany(mill, tick - 13);
        return mill;
    }

    /** As filled(), with an AGE and a SURGE that put the SEA where it is asked for. */
    static TideMill filled(int tick, int age, int quarters) {
        TideMill mill = filled(tick);
        mill.moon((age + 300 - tick / 48) % 30);
        mill.surge(quarters);
        return mill;
    }

    /**
     * A mill on TICK 24, LEVEL just below 0.5, so that SLUICE 4 gives the greatest FORCE below 1.0 that there is:
     * 3 GATES at a SEA that is a bit below 8 / 3.
     */
    static TideMill justBelowOne() {
        TideMill mill = at(8);
        mill.surge(8);
        mill.gates(3);
        mill.pass(1);
        mill.gates(0);
        mill.surge(-8);
        mill.pass(15);
        mill.sluice(4);
        return mill;
    }

    /** As filled(24), where the SEA is below -0.5, with a SLUICE that gives FORCE 1.5625 on the next TICK. */
    static TideMill strong() {
        TideMill mill = filled(24);
        mill.sluice(4);
        return mill;
    }

    /**
     * A mill on TICK 74 with SLUICE 4: the LEVEL is so high that the next TICK gives a FORCE above 5.0.
     */
    static TideMill flooded() {
        TideMill mill = at(1);
        mill.surge(8);
        mill.gates(3);
        mill.pass(64);
        mill.gates(0);
        mill.surge(-8);
        mill.pass(9);
        mill.sluice(4);
        return mill;
    }
}
