/** Promises 25 to 29: what would be. */
public final class WouldTest {
    private static final Class<IllegalArgumentException> ARGUMENT = IllegalArgumentException.class;
    private static final Class<IndexOutOfBoundsException> INDEX = IndexOutOfBoundsException.class;
    private static final int LEAST = Integer.MIN_VALUE;
    private static final int MOST = Integer.MAX_VALUE;

    public static void main(String[] args) {
        high();
        wouldLevel();
        wouldDone();
        wouldDoneLate();
        best();
        digest();
        atTheEnd();
        Check.finish("WouldTest");
    }

    private static void high() {
        TideMill mill = new TideMill();
        for (int tick = 0; tick <= 200; tick++) {
            int due = 0;
            while ((tick + due) % 24.75 < 12.0 || (tick + due) % 24.75 >= 13.0) {
                due++;
            }
            Check.same("25: high() on TICK " + tick, mill.high(), due);
            mill.pass(1);
        }
        Check.same("25: PHASE 12.0", Mills.at(12).high(), 0);
        Check.same("25: PHASE 13.0", Mills.at(13).high(), 24);
        Check.same("25: PHASE 12.75", Mills.at(87).high(), 0);
        Check.same("25: PHASE 11.75", Mills.at(86).high(), 1);
    }

    private static void wouldLevel() {
        TideMill mill = Mills.strong();
        mill.scour(true);
        mill.gates(2);
        String before = Portrait.of(mill);
        for (int ticks = 1; ticks <= 100; ticks++) {
            TideMill other = Mills.strong();
            other.scour(true);
            other.gates(2);
            other.pass(ticks);
            Check.same("26: wouldLevel(" + ticks + ")", mill.wouldLevel(ticks), other.pond(0));
        }
        Check.same("26: nothing is changed", Portrait.of(mill), before);
        TideMill neap = new TideMill();
        neap.moon(7);
        neap.gates(1);
        double sea = 2.25 * (7.0 / 12.0) - 2.25 * 0.5;
        Check.same("26: the MOON is as told", neap.wouldLevel(8), sea * 0.5 / 8.0);
        Check.same("26: by hand", Mills.strong().wouldLevel(1), 0.75 - 1.25 / 7.90625);
        for (int wrong : new int[] {-1, 0, 101, LEAST, MOST}) {
            Check.raises(mill, "26: wouldLevel(" + wrong + ")", ARGUMENT, () -> mill.wouldLevel(wrong));
        }
    }

    private static TideMill busy() {
        TideMill mill = Mills.flooded();
        mill.gates(1);
        mill.pair();
        mill.pair();
        mill.pair();
        mill.lot(0, 0, 4, 3);
        mill.lot(1, 1, 20, 3);
        mill.lot(2, 2, 25, 3);
        mill.lot(3, 0, 60, 3);
        mill.feed(0, 0);
        mill.feed(1, 1);
        mill.feed(2, 2);
        return mill;
    }

    private static void wouldDone() {
        TideMill mill = busy();
        String before = Portrait.of(mill);
        for (int lot = 0; lot < 3; lot++) {
            int due = mill.wouldDone(lot);
            TideMill other = busy();
            Check.same("27: it is 1 at least", due >= 1, true);
            Mills.passMany(other, due - 1);
            Check.same("27: one TICK before", other.ofLot(lot, 4), 1);
            Check.same("27: then it would be 1", other.wouldDone(lot), 1);
            other.pass(1);
            Check.same("27: on that TICK", other.ofLot(lot, 4), 2);
            Check.same("27: it is DONE", other.wouldDone(lot), 0);
            other.give(lot);
            Check.same("27: it is GIVEN", other.wouldDone(lot), 0);
        }
        Check.same("27: by hand", mill.wouldDone(0), 1);
        Check.same("27: it WAITS", mill.wouldDone(3), -1);
        Check.same("27: nothing is changed", Portrait.of(mill), before);
        for (int wrong : new int[] {-1, 4, LEAST, MOST}) {
            Check.raises(mill, "27: wouldDone(" + wrong + ")", INDEX, () -> mill.wouldDone(wrong));
        }
        mill.sluice(0);
        Check.same("27: without a FORCE", mill.wouldDone(1), -1);
    }

    private static void wouldDoneLate() {
        // All is as it was told at first, so each mill is DONE on the same TICK, and asked about 300 TICKS before that.
        int tick = tickOfLazy();
        Check.same("27: the lazy one takes above 310 TICKS", tick > 310 && tick < 5000, true);
        for (int wait = 290; wait <= 310; wait++) {
            TideMill mill = lazy();
            Mills.passMany(mill, tick - wait);
            Check.same("27: wouldDone() " + wait + " TICKS before", mill.wouldDone(0), wait <= 300 ? wait : -1);
        }
    }

    /** Two TICKS of work a DAY at the most, so that its LOT takes longer than 300 TICKS. */
    private static TideMill lazy() {
        TideMill mill = new TideMill();
        mill.surge(8);
        mill.gates(1);
        mill.sluice(1);
        mill.hours(20, 21);
        mill.pair();
        mill.lot(0, 0, 60, 0);
        mill.feed(0, 0);
        return mill;
    }

    /** On which TICK the LOT of lazy() is DONE, found by passing alone. */
    private static int tickOfLazy() {
        int hundreds = 0;
        for (TideMill mill = lazy(); hundreds < 50 && mill.pass(100) == 0; ) {
            hundreds++;
        }
        TideMill mill = lazy();
        Mills.passMany(mill, hundreds * 100);
        int tick = hundreds * 100 + 1;
        while (tick < 5000 && mill.pass(1) == 0) {
            tick++;
        }
        return tick;
    }

    private static void best() {
        TideMill mill = busy();
        String before = Portrait.of(mill);
        for (int ticks = 1; ticks <= 48; ticks++) {
            int due = -1;
            double least = 0.0;
            for (int sluice = 0; sluice <= 4; sluice++) {
                TideMill other = busy();
                other.sluice(sluice);
                other.pass(ticks);
                double sum = 0.0;
                for (int lot = 0; lot < 4; lot++) {
                    sum += other.left(lot);
                }
                if (due < 0 || sum < least) {
                    due = sluice;
                    least = sum;
                }
            }
            Check.same("28: best(" + ticks + ")", mill.best(ticks), due);
        }
        Check.same("28: nothing is changed", Portrait.of(mill), before);
        Check.same("28: without LOTS the smallest", Mills.strong().best(48), 0);
        Check.same("28: the SLUICE of now does not matter", mill.many(5), 4);
        for (int wrong : new int[] {-1, 0, 49, LEAST, MOST}) {
            Check.raises(mill, "28: best(" + wrong + ")", ARGUMENT, () -> mill.best(wrong));
        }

        // FORCE is 1.171875 with SLUICE 3 and 1.5625 with 4: a PAIR NEEDS 1.0, so 3 and 4 do as much.
        TideMill tie = Mills.filled(24);
        tie.pair();
        tie.lot(0, 0, 60, 0);
        tie.feed(0, 0);
        Check.same("28: of several the smallest", tie.best(1), 3);
        TideMill two = Mills.filled(24);
        two.pair();
        two.pair();
        two.lot(0, 0, 60, 0);
        two.lot(0, 0, 60, 0);
        two.feed(0, 0);
        two.feed(1, 1);
        Check.same("28: of all LOTS together", two.best(1), 4);
        tie.hours(0, 1);
        Check.same("28: asleep all do nothing", tie.best(1), 0);
    }

    private static long digestOf(TideMill mill) {
        long d = 58306;
        for (int what = 0; what <= 16; what++) {
            d = d * 31 + mill.many(what);
        }
        d = d * 31 + (long) (1024 * mill.pond(0));
        d = d * 31 + (long) (1024 * mill.pond(1));
        d = d * 31 + (long) (1024 * mill.pond(4));
        for (int pair = 0; pair < mill.many(6); pair++) {
            d = d * 31 + mill.ofPair(pair, 0);
            d = d * 31 + mill.ofPair(pair, 1);
            d = d * 31 + mill.ofPair(pair, 2);
            d = d * 31 + (long) (1024 * mill.dull(pair));
        }
        for (int lot = 0; lot < mill.many(7); lot++) {
            for (int what = 0; what <= 5; what++) {
                d = d * 31 + mill.ofLot(lot, what);
            }
            d = d * 31 + (long) (1024 * mill.left(lot));
            d = d * 31 + mill.wouldDone(lot);
        }
        for (int owner = 0; owner <= 3; owner++) {
            d = d * 31 + mill.ofOwner(owner, false);
        }
        d = d * 31 + mill.high();
        return d * 31 + mill.best(24);
    }

    private static void digest() {
        TideMill mill = busy();
        for (int i = 0; i < 4; i++) {
            Check.same("29: digest()", mill.digest(), digestOf(mill));
            Check.same("29: digest() again", mill.digest(), mill.digest());
            if (mill.many(9) > 0 && mill.ofLot(0, 4) == 2) {
                mill.give(0);
            }
            mill.scour(i % 3 == 0);
            mill.pass(1 + 9 * i);
        }
        TideMill low = new TideMill();
        low.scour(true);
        low.pass(3);
        low.sluice(1);
        Check.same("29: digest() of a LEVEL below 0.0", low.digest(), digestOf(low));
        TideMill watched = Mills.filled(24);
        watched.surge(0);
        watched.gates(2);
        watched.pair();
        watched.pair();
        watched.lot(0, 0, 4, 0);
        watched.lot(0, 1, 4, 0);
        watched.feed(0, 0);
        watched.feed(1, 1);
        watched.hours(47, 0);
        Check.same("29: best() of 23 is another", watched.best(23), 0);
        Check.same("29: best() of 24", watched.best(24), 3);
        Check.same("29: best() of 25 is another", watched.best(25), 2);
        Check.same("29: digest() takes that of 24", watched.digest(), digestOf(watched));
        Check.same("29: digest() of a new mill", new TideMill().digest(), digestOf(new TideMill()));
    }

    private static void atTheEnd() {
        TideMill mill = Mills.at(4990);
        mill.gates(3);
        mill.sluice(2);
        mill.pair();
        mill.lot(0, 0, 30, 0);
        mill.feed(0, 0);
        mill.pass(10);
        double level = mill.pond(0);
        boolean isMoved = false;
        for (int ticks = 1; ticks <= 100; ticks++) {
            isMoved |= mill.wouldLevel(ticks) != level;
        }
        Check.same("26: also beyond TICK 5000", isMoved, true);
        Check.same("27: also beyond TICK 5000", mill.wouldDone(0) > 0, true);
        Check.same("28: also beyond TICK 5000", mill.best(48) > 0, true);
        Check.same("29: also on TICK 5000", mill.digest(), digestOf(mill));
        Check.same("25: also on TICK 5000", mill.high() >= 0, true);
        Check.same("16: TICK is still 5000", mill.many(0), 5000);
    }
}
