import java.util.function.Supplier;

/**
 * "A method that throws an exception changes nothing. If several exceptions apply, the one that is named first
 * is thrown." Each call that the document refuses, in the order of its promises, on both sides of what is taken.
 */
public final class RefusedTest {
    private static final Class<IllegalArgumentException> ARGUMENT = IllegalArgumentException.class;
    private static final Class<IllegalStateException> STATE = IllegalStateException.class;
    private static final Class<IndexOutOfBoundsException> INDEX = IndexOutOfBoundsException.class;
    private static final int LEAST = Integer.MIN_VALUE;
    private static final int MOST = Integer.MAX_VALUE;

    public static void main(String[] args) {
        madeAsTold();
        moon();
        surge();
        gates();
        sluice();
        hours();
        pair();
        lot();
        feed();
        feedInState();
        take();
        dress();
        give();
        pass();
        sea();
        pond();
        ofPair();
        dull();
        ofLot();
        left();
        many();
        ofOwner();
        wouldLevel();
        wouldDone();
        best();
        askedInVain();
        Check.finish("RefusedTest");
    }

    // ---- the mills

    /** PAIR 0 has LOT 2, PAIR 1 a DRESSING, PAIR 2 neither; LOT 0 is GIVEN, 1 DONE, 3 and 4 WAIT. */
    private static TideMill busy() {
        TideMill mill = Mills.flooded();
        addStones(mill, 4);
        mill.pass(1);
        mill.give(0);
        mill.feed(0, 2);
        mill.dress(1);
        mill.pass(1);
        mill.moon(12);
        mill.surge(3);
        mill.gates(2);
        mill.sluice(1);
        mill.scour(true);
        mill.hours(10, 40);
        mill.bell();
        return mill;
    }

    /** Three PAIRS, the first two with a LOT that one TICK of a strong wheel ends, and three LOTS that WAIT. */
    private static void addStones(TideMill mill, int weight) {
        for (int pair = 0; pair < 3; pair++) {
            mill.pair();
        }
        mill.lot(0, 0, weight, 0);
        mill.lot(1, 1, weight - 1, 1);
        mill.lot(2, 2, 60, 2);
        mill.lot(3, 0, 30, 3);
        mill.lot(0, 1, 20, 30);
        mill.feed(0, 0);
        mill.feed(1, 1);
    }

    private static TideMill locked() {
        TideMill mill = busy();
        mill.lock(true);
        return mill;
    }

    private static TideMill full() {
        TideMill mill = busy();
        for (int lot = 5; lot < 10; lot++) {
            mill.lot(lot % 4, lot % 3, 10, 0);
        }
        return mill;
    }

    /** A mill that works, on one of the last TICKS. */
    private static TideMill late(int tick) {
        TideMill mill = Mills.at(tick - 20);
        mill.gates(3);
        mill.sluice(2);
        addStones(mill, 60);
        mill.pass(20);
        return mill;
    }

    private static void madeAsTold() {
        TideMill mill = busy();
        int[] states = {3, 2, 1, 0, 0};
        for (int lot = 0; lot < 5; lot++) {
            Check.same("busy() LOT " + lot, mill.ofLot(lot, 4), states[lot]);
        }
        Check.same("busy() PAIR 0", mill.ofPair(0, 0), 2);
        Check.same("busy() PAIR 1", mill.ofPair(1, 1) > 0, true);
        Check.same("busy() PAIR 2", mill.ofPair(2, 0) == -1 && mill.ofPair(2, 1) == 0, true);
        Check.same("full()", full().many(7), 10);
        Check.same("late()", late(4950).many(0), 4950);
    }

    // ---- what is told

    private static void moon() {
        for (int wrong : new int[] {-1, 30, LEAST, MOST}) {
            Twin.refused("2: moon(" + wrong + ")", RefusedTest::busy, ARGUMENT, mill -> mill.moon(wrong));
        }
    }

    private static void surge() {
        for (int wrong : new int[] {-9, 9, LEAST, MOST}) {
            Twin.refused("3: surge(" + wrong + ")", RefusedTest::busy, ARGUMENT, mill -> mill.surge(wrong));
        }
    }

    private static void gates() {
        for (int wrong : new int[] {-1, 4, LEAST, MOST}) {
            Twin.refused("4: gates(" + wrong + ")", RefusedTest::busy, ARGUMENT, mill -> mill.gates(wrong));
            Twin.refused("4: gates(" + wrong + ") LOCKED", RefusedTest::locked, ARGUMENT, mill -> mill.gates(wrong));
        }
        for (int gates = 0; gates <= 3; gates++) {
            int told = gates;
            Twin.refused("4: gates(" + told + ") LOCKED", RefusedTest::locked, STATE, mill -> mill.gates(told));
        }
    }

    private static void sluice() {
        for (int wrong : new int[] {-1, 5, LEAST, MOST}) {
            Twin.refused("5: sluice(" + wrong + ")", RefusedTest::busy, ARGUMENT, mill -> mill.sluice(wrong));
        }
    }

    private static void hours() {
        for (int wrong : new int[] {-1, 48, LEAST, MOST}) {
            for (int other : new int[] {0, 20, 47, -1, 48}) {
                String wrongFrom = "7: hours(" + wrong + ", " + other + ")";
                Twin.refused(wrongFrom, RefusedTest::busy, ARGUMENT, mill -> mill.hours(wrong, other));
                String wrongTo = "7: hours(" + other + ", " + wrong + ")";
                Twin.refused(wrongTo, RefusedTest::busy, ARGUMENT, mill -> mill.hours(other, wrong));
            }
        }
    }

    // ---- stones and lots

    private static void pair() {
        Twin.refused("10: a fourth pair()", RefusedTest::busy, STATE, mill -> mill.pair());
        Supplier<TideMill> idle = () -> {
            TideMill mill = new TideMill();
            mill.pair();
            mill.pair();
            mill.pair();
            return mill;
        };
        Twin.refused("10: a fourth pair() of idle ones", idle, STATE, mill -> mill.pair());
    }

    private static void lot() {
        int[][] wrongs = {
            {-1, 0, 1, 0}, {4, 0, 1, 0}, {LEAST, 0, 1, 0}, {MOST, 0, 1, 0},
            {0, -1, 1, 0}, {0, 3, 1, 0}, {0, LEAST, 1, 0}, {0, MOST, 1, 0},
            {0, 0, 0, 0}, {0, 0, 61, 0}, {0, 0, -1, 0}, {0, 0, LEAST, 0}, {0, 0, MOST, 0},
            {0, 0, 1, -1}, {0, 0, 1, 31}, {0, 0, 1, LEAST}, {0, 0, 1, MOST}, {4, 3, 61, 31},
        };
        for (int[] w : wrongs) {
            String what = "11: lot(" + w[0] + ", " + w[1] + ", " + w[2] + ", " + w[3] + ")";
            Twin.refused(what, RefusedTest::busy, ARGUMENT, mill -> mill.lot(w[0], w[1], w[2], w[3]));
            Twin.refused(what + " of 10", RefusedTest::full, ARGUMENT, mill -> mill.lot(w[0], w[1], w[2], w[3]));
        }
        Twin.refused("11: an eleventh lot()", RefusedTest::full, STATE, mill -> mill.lot(0, 0, 1, 0));
        Twin.refused("11: an eleventh lot(), the greatest", RefusedTest::full, STATE, mill -> mill.lot(3, 2, 60, 30));
    }

    private static void feed() {
        for (int wrong : new int[] {-1, 3, LEAST, MOST}) {
            Twin.refused("12: feed(" + wrong + ", 3)", RefusedTest::busy, INDEX, mill -> mill.feed(wrong, 3));
            Twin.refused("12: feed(" + wrong + ", 1), DONE", RefusedTest::busy, INDEX, mill -> mill.feed(wrong, 1));
        }
        for (int wrong : new int[] {-1, 5, LEAST, MOST}) {
            for (int pair = 0; pair < 3; pair++) {
                int to = pair;
                String what = "12: feed(" + to + ", " + wrong + ")";
                Twin.refused(what, RefusedTest::busy, INDEX, mill -> mill.feed(to, wrong));
            }
        }
        Twin.refused("12: feed(2, 10) of 10", RefusedTest::full, INDEX, mill -> mill.feed(2, 10));
        Twin.refused("12: feed(0, 0) of a new mill", TideMill::new, INDEX, mill -> mill.feed(0, 0));
        Supplier<TideMill> onlyPair = () -> {
            TideMill mill = new TideMill();
            mill.pair();
            return mill;
        };
        Twin.refused("12: feed(0, 0) without LOTS", onlyPair, INDEX, mill -> mill.feed(0, 0));
        Supplier<TideMill> onlyLot = () -> {
            TideMill mill = new TideMill();
            mill.lot(0, 0, 1, 0);
            return mill;
        };
        Twin.refused("12: feed(0, 0) without PAIRS", onlyLot, INDEX, mill -> mill.feed(0, 0));
    }

    private static void feedInState() {
        for (int lot = 0; lot < 3; lot++) {
            int fed = lot;
            Twin.refused("12: feed(2, " + fed + ") does not WAIT", RefusedTest::busy, STATE, mill -> mill.feed(2, fed));
        }
        Twin.refused("12: feed(0, 3), it has a LOT", RefusedTest::busy, STATE, mill -> mill.feed(0, 3));
        Twin.refused("12: feed(0, 2), it has that one", RefusedTest::busy, STATE, mill -> mill.feed(0, 2));
        Twin.refused("12: feed(1, 3), it has a DRESSING", RefusedTest::busy, STATE, mill -> mill.feed(1, 3));
        Supplier<TideMill> oneLeft = () -> {
            TideMill mill = new TideMill();
            mill.pair();
            mill.lot(0, 0, 1, 0);
            mill.dress(0);
            mill.pass(2);
            return mill;
        };
        Check.same("12: a DRESSING of 1", oneLeft.get().ofPair(0, 1), 1);
        Twin.refused("12: feed(0, 0), its DRESSING is 1", oneLeft, STATE, mill -> mill.feed(0, 0));
        Twin.refused("14: dress(0), its DRESSING is 1", oneLeft, STATE, mill -> mill.dress(0));
    }

    private static void take() {
        for (int wrong : new int[] {-1, 3, LEAST, MOST}) {
            Twin.refused("13: take(" + wrong + ")", RefusedTest::busy, INDEX, mill -> mill.take(wrong));
        }
        Twin.refused("13: take(0) of a new mill", TideMill::new, INDEX, mill -> mill.take(0));
        Twin.refused("13: take(1), it has a DRESSING", RefusedTest::busy, STATE, mill -> mill.take(1));
        Twin.refused("13: take(2), it has none", RefusedTest::busy, STATE, mill -> mill.take(2));
    }

    private static void dress() {
        for (int wrong : new int[] {-1, 3, LEAST, MOST}) {
            Twin.refused("14: dress(" + wrong + ")", RefusedTest::busy, INDEX, mill -> mill.dress(wrong));
        }
        Twin.refused("14: dress(0) of a new mill", TideMill::new, INDEX, mill -> mill.dress(0));
        Twin.refused("14: dress(0), it has a LOT", RefusedTest::busy, STATE, mill -> mill.dress(0));
        Twin.refused("14: dress(1), it has a DRESSING", RefusedTest::busy, STATE, mill -> mill.dress(1));
    }

    private static void give() {
        for (int wrong : new int[] {-1, 5, LEAST, MOST}) {
            Twin.refused("15: give(" + wrong + ")", RefusedTest::busy, INDEX, mill -> mill.give(wrong));
        }
        Twin.refused("15: give(10) of 10", RefusedTest::full, INDEX, mill -> mill.give(10));
        Twin.refused("15: give(0) of a new mill", TideMill::new, INDEX, mill -> mill.give(0));
        Twin.refused("15: give(0), it is GIVEN", RefusedTest::busy, STATE, mill -> mill.give(0));
        Twin.refused("15: give(2), it is at a PAIR", RefusedTest::busy, STATE, mill -> mill.give(2));
        Twin.refused("15: give(3), it WAITS", RefusedTest::busy, STATE, mill -> mill.give(3));
    }

    private static void pass() {
        for (int wrong : new int[] {-1, 0, 101, LEAST, MOST}) {
            Twin.refused("16: pass(" + wrong + ")", RefusedTest::busy, ARGUMENT, mill -> mill.pass(wrong));
            Twin.refused("16: pass(" + wrong + ") late", () -> late(4950), ARGUMENT, mill -> mill.pass(wrong));
            Twin.refused("16: pass(" + wrong + ") last", () -> late(5000), ARGUMENT, mill -> mill.pass(wrong));
        }
        Twin.refused("16: pass(51) to TICK 5001", () -> late(4950), STATE, mill -> mill.pass(51));
        Twin.refused("16: pass(100) to TICK 5001", () -> late(4901), STATE, mill -> mill.pass(100));
        Twin.refused("16: pass(100) to TICK 5050", () -> late(4950), STATE, mill -> mill.pass(100));
        Twin.refused("16: pass(1) on TICK 5000", () -> late(5000), STATE, mill -> mill.pass(1));
        Twin.refused("16: pass(100) on TICK 5000", () -> late(5000), STATE, mill -> mill.pass(100));
    }

    // ---- what is asked

    private static void sea() {
        for (int wrong : new int[] {-1, 1001, LEAST, MOST}) {
            Twin.refused("17: sea(" + wrong + ")", RefusedTest::busy, ARGUMENT, mill -> mill.sea(wrong));
            Twin.refused("17: sea(" + wrong + ") last", () -> late(5000), ARGUMENT, mill -> mill.sea(wrong));
        }
    }

    private static void pond() {
        for (int wrong : new int[] {-1, 6, LEAST, MOST}) {
            Twin.refused("18: pond(" + wrong + ")", RefusedTest::busy, ARGUMENT, mill -> mill.pond(wrong));
        }
    }

    private static void ofPair() {
        for (int wrong : new int[] {-1, 3, LEAST, MOST}) {
            for (int what = -1; what <= 3; what++) {
                int asked = what;
                String named = "19: ofPair(" + wrong + ", " + asked + ")";
                Twin.refused(named, RefusedTest::busy, INDEX, mill -> mill.ofPair(wrong, asked));
            }
            Twin.refused("19: ofPair(2, " + wrong + ")", RefusedTest::busy, ARGUMENT, mill -> mill.ofPair(2, wrong));
        }
        Twin.refused("19: ofPair(0, 0) of a new mill", TideMill::new, INDEX, mill -> mill.ofPair(0, 0));
        Twin.refused("19: ofPair(0, 3) of a new mill", TideMill::new, INDEX, mill -> mill.ofPair(0, 3));
    }

    private static void dull() {
        for (int wrong : new int[] {-1, 3, LEAST, MOST}) {
            Twin.refused("20: dull(" + wrong + ")", RefusedTest::busy, INDEX, mill -> mill.dull(wrong));
        }
        Twin.refused("20: dull(0) of a new mill", TideMill::new, INDEX, mill -> mill.dull(0));
    }

    private static void ofLot() {
        for (int wrong : new int[] {-1, 5, LEAST, MOST}) {
            for (int what = -1; what <= 6; what++) {
                int asked = what;
                String named = "21: ofLot(" + wrong + ", " + asked + ")";
                Twin.refused(named, RefusedTest::busy, INDEX, mill -> mill.ofLot(wrong, asked));
            }
        }
        for (int wrong : new int[] {-1, 6, LEAST, MOST}) {
            Twin.refused("21: ofLot(4, " + wrong + ")", RefusedTest::busy, ARGUMENT, mill -> mill.ofLot(4, wrong));
        }
        Twin.refused("21: ofLot(10, 0) of 10", RefusedTest::full, INDEX, mill -> mill.ofLot(10, 0));
        Twin.refused("21: ofLot(0, 0) of a new mill", TideMill::new, INDEX, mill -> mill.ofLot(0, 0));
        Twin.refused("21: ofLot(0, 6) of a new mill", TideMill::new, INDEX, mill -> mill.ofLot(0, 6));
    }

    private static void left() {
        for (int wrong : new int[] {-1, 5, LEAST, MOST}) {
            Twin.refused("22: left(" + wrong + ")", RefusedTest::busy, INDEX, mill -> mill.left(wrong));
        }
        Twin.refused("22: left(10) of 10", RefusedTest::full, INDEX, mill -> mill.left(10));
        Twin.refused("22: left(0) of a new mill", TideMill::new, INDEX, mill -> mill.left(0));
    }

    private static void many() {
        for (int wrong : new int[] {-1, 17, LEAST, MOST}) {
            Twin.refused("23: many(" + wrong + ")", RefusedTest::busy, ARGUMENT, mill -> mill.many(wrong));
        }
    }

    private static void ofOwner() {
        for (int wrong : new int[] {-1, 4, LEAST, MOST}) {
            for (boolean isAll : new boolean[] {false, true}) {
                String what = "24: ofOwner(" + wrong + ", " + isAll + ")";
                Twin.refused(what, RefusedTest::busy, INDEX, mill -> mill.ofOwner(wrong, isAll));
            }
        }
    }

    // ---- what would be

    private static void wouldLevel() {
        for (int wrong : new int[] {-1, 0, 101, LEAST, MOST}) {
            Twin.refused("26: wouldLevel(" + wrong + ")", RefusedTest::busy, ARGUMENT, mill -> mill.wouldLevel(wrong));
        }
    }

    private static void wouldDone() {
        for (int wrong : new int[] {-1, 5, LEAST, MOST}) {
            Twin.refused("27: wouldDone(" + wrong + ")", RefusedTest::busy, INDEX, mill -> mill.wouldDone(wrong));
        }
        Twin.refused("27: wouldDone(10) of 10", RefusedTest::full, INDEX, mill -> mill.wouldDone(10));
        Twin.refused("27: wouldDone(0) of a new mill", TideMill::new, INDEX, mill -> mill.wouldDone(0));
    }

    private static void best() {
        for (int wrong : new int[] {-1, 0, 49, LEAST, MOST}) {
            Twin.refused("28: best(" + wrong + ")", RefusedTest::busy, ARGUMENT, mill -> mill.best(wrong));
        }
    }

    /** "What would be (nothing is changed)", and what is asked: an answer leaves all as it was. */
    private static void askedInVain() {
        for (int tick : new int[] {0, 5000}) {
            Supplier<TideMill> made = tick == 0 ? RefusedTest::busy : () -> late(5000);
            Twin.asked("17: sea(1000)", made, mill -> mill.sea(1000));
            Twin.asked("18: pond(5)", made, mill -> mill.pond(5));
            Twin.asked("19: ofPair(2, 2)", made, mill -> mill.ofPair(2, 2));
            Twin.asked("20: dull(2)", made, mill -> mill.dull(2));
            Twin.asked("21: ofLot(4, 5)", made, mill -> mill.ofLot(4, 5));
            Twin.asked("22: left(4)", made, mill -> mill.left(4));
            Twin.asked("23: many(16)", made, mill -> mill.many(16));
            Twin.asked("24: ofOwner(3, true)", made, mill -> mill.ofOwner(3, true));
            Twin.asked("25: high()", made, mill -> mill.high());
            Twin.asked("26: wouldLevel(1)", made, mill -> mill.wouldLevel(1));
            Twin.asked("26: wouldLevel(100)", made, mill -> mill.wouldLevel(100));
            Twin.asked("27: wouldDone(2)", made, mill -> mill.wouldDone(2));
            Twin.asked("28: best(1)", made, mill -> mill.best(1));
            Twin.asked("28: best(48)", made, mill -> mill.best(48));
            Twin.asked("29: digest()", made, mill -> mill.digest());
        }
    }
}
