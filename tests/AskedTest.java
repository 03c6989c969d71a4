/** Promises 17 to 24: what is asked. */
public final class AskedTest {
    private static final Class<IllegalArgumentException> ARGUMENT = IllegalArgumentException.class;
    private static final Class<IndexOutOfBoundsException> INDEX = IndexOutOfBoundsException.class;
    private static final int LEAST = Integer.MIN_VALUE;
    private static final int MOST = Integer.MAX_VALUE;

    public static void main(String[] args) {
        sea();
        pond();
        ofPair();
        dull();
        ofLot();
        left();
        many();
        ofOwner();
        Check.finish("AskedTest");
    }

    private static void sea() {
        TideMill mill = new TideMill();
        int[] ahead = {0, 3, 6, 9, 12, 25};
        double[] due = {-2.0, -1.0, 0.0, 1.0, 2.0, 4.0 * (0.25 / 12.0) - 2.0};
        for (int i = 0; i < ahead.length; i++) {
            Check.same("17: sea(" + ahead[i] + ")", mill.sea(ahead[i]), due[i]);
        }
        Check.same("17: sea(13)", mill.sea(13), 4.0 * (11.75 / 12.75) - 2.0);
        Check.same("17: sea(24)", mill.sea(24), 4.0 * (0.75 / 12.75) - 2.0);
        Check.same("17: sea(99), day 2, RANGE 3.5", mill.sea(99), -1.75);
        mill.moon(29);
        Check.same("17: sea(99), day 2, AGE 1", mill.sea(99), -1.875);
        mill.surge(5);
        Check.same("17: sea(99), SURGE 1.25", mill.sea(99), -0.625);
        TideMill other = Mills.at(93);
        other.moon(29);
        other.surge(5);
        Check.same("17: the same TICK from TICK 93", other.sea(6), -0.625);
        TideMill last = Mills.at(5000);
        double phase = 6000 % 24.75;
        double risen = phase < 12.0 ? phase / 12.0 : (24.75 - phase) / 12.75;
        Check.same("17: sea(1000) on TICK 5000", last.sea(1000), 0.0 + 2.75 * risen - 2.75 * 0.5);
        for (int wrong : new int[] {-1, 1001, LEAST, MOST}) {
            Check.raises(last, "17: sea(" + wrong + ")", ARGUMENT, () -> last.sea(wrong));
        }
    }

    private static void pond() {
        TideMill mill = Mills.strong();
        mill.pair();
        mill.lot(0, 0, 4, 0);
        mill.feed(0, 0);
        mill.pass(1);
        mill.give(0);
        mill.moon(5);
        double[] due = {0.75 - 1.25 / 7.90625, 0.09375, 7.90625, 1.5625, 0.25, 2.75};
        for (int what = 0; what <= 5; what++) {
            Check.same("18: pond(" + what + ")", mill.pond(what), due[what]);
        }
        mill.pass(23);
        Check.same("18: RANGE of now", mill.pond(5), 2.5);
        for (int wrong : new int[] {-1, 6, LEAST, MOST}) {
            Check.raises(mill, "18: pond(" + wrong + ")", ARGUMENT, () -> mill.pond(wrong));
        }
    }

    private static void ofPair() {
        TideMill mill = Mills.strong();
        Check.raises(mill, "19: without PAIRS", INDEX, () -> mill.ofPair(0, 0));
        for (int pair = 0; pair < 3; pair++) {
            mill.pair();
        }
        mill.lot(0, 0, 20, 0);
        mill.lot(0, 0, 20, 0);
        mill.feed(2, 1);
        mill.dress(1);
        mill.pass(1);
        int[][] due = {{-1, 0, 1}, {-1, 2, 0}, {1, 0, 0}};
        for (int pair = 0; pair < 3; pair++) {
            for (int what = 0; what <= 2; what++) {
                Check.same("19: ofPair(" + pair + ", " + what + ")", mill.ofPair(pair, what), due[pair][what]);
            }
        }
        for (int wrong : new int[] {-1, 3, LEAST, MOST}) {
            Check.raises(mill, "19: ofPair(" + wrong + ", 0)", INDEX, () -> mill.ofPair(wrong, 0));
            Check.raises(mill, "19: ofPair(2, " + wrong + ")", ARGUMENT, () -> mill.ofPair(2, wrong));
            Check.raises(mill, "19: ofPair(3, " + wrong + ")", INDEX, () -> mill.ofPair(3, wrong));
        }
    }

    private static void dull() {
        TideMill mill = Mills.strong();
        Check.raises(mill, "20: without PAIRS", INDEX, () -> mill.dull(0));
        mill.pair();
        mill.pair();
        mill.pass(1);
        Check.same("20: dull(0)", mill.dull(0), 0.125);
        Check.same("20: dull(1)", mill.dull(1), 0.0);
        for (int wrong : new int[] {-1, 2, LEAST, MOST}) {
            Check.raises(mill, "20: dull(" + wrong + ")", INDEX, () -> mill.dull(wrong));
        }
    }

    private static void ofLot() {
        TideMill mill = Mills.strong();
        Check.raises(mill, "21: without LOTS", INDEX, () -> mill.ofLot(0, 0));
        mill.pair();
        mill.pair();
        mill.lot(0, 2, 5, 3);
        mill.lot(3, 1, 60, 30);
        mill.lot(1, 0, 9, 0);
        mill.feed(0, 0);
        mill.feed(1, 1);
        mill.pass(1);
        mill.feed(0, 2);
        int[][] due = {{0, 2, 5, 3, 2, -1}, {3, 1, 60, 30, 1, 1}, {1, 0, 9, 0, 1, 0}};
        for (int lot = 0; lot < 3; lot++) {
            for (int what = 0; what <= 5; what++) {
                Check.same("21: ofLot(" + lot + ", " + what + ")", mill.ofLot(lot, what), due[lot][what]);
            }
        }
        mill.give(0);
        Check.same("21: GIVEN", mill.ofLot(0, 4), 3);
        Check.same("21: GIVEN, its PAIR", mill.ofLot(0, 5), -1);
        for (int wrong : new int[] {-1, 3, LEAST, MOST}) {
            Check.raises(mill, "21: ofLot(" + wrong + ", 0)", INDEX, () -> mill.ofLot(wrong, 0));
        }
        for (int wrong : new int[] {-1, 6, LEAST, MOST}) {
            Check.raises(mill, "21: ofLot(1, " + wrong + ")", ARGUMENT, () -> mill.ofLot(1, wrong));
            Check.raises(mill, "21: ofLot(3, " + wrong + ")", INDEX, () -> mill.ofLot(3, wrong));
        }
    }

    private static void left() {
        TideMill mill = Mills.strong();
        Check.raises(mill, "22: without LOTS", INDEX, () -> mill.left(0));
        mill.pair();
        mill.lot(0, 0, 7, 0);
        mill.lot(0, 1, 7, 0);
        mill.feed(0, 1);
        mill.pass(1);
        Check.same("22: left(0)", mill.left(0), 7.0);
        Check.same("22: left(1)", mill.left(1), 4.0);
        for (int wrong : new int[] {-1, 2, LEAST, MOST}) {
            Check.raises(mill, "22: left(" + wrong + ")", INDEX, () -> mill.left(wrong));
        }
    }

    private static void many() {
        TideMill mill = Mills.strong();
        mill.moon(3);
        mill.pair();
        mill.pair();
        mill.pair();
        mill.lot(0, 0, 4, 0);
        for (int lot = 1; lot < 9; lot++) {
            mill.lot(lot % 4, lot % 3, 30, 2);
        }
        mill.feed(0, 0);
        mill.pass(1);
        mill.give(0);
        mill.pass(1);
        mill.feed(0, 1);
        mill.pass(45);
        mill.gates(2);
        mill.bell();
        mill.bell();
        mill.lock(true);
        mill.hours(0, 20);
        int[] due = {71, 1, 4, 4, 2, 4, 3, 9, 7, 0, 1, 0, 3, mill.ofPair(0, 2) + mill.ofPair(1, 2), 0, 2, 1};
        for (int what = 0; what <= 16; what++) {
            Check.same("23: many(" + what + ")", mill.many(what), due[what]);
        }
        TideMill done = Mills.strong();
        done.pair();
        done.lot(0, 0, 4, 0);
        done.feed(0, 0);
        done.pass(1);
        Check.same("23: DONE", done.many(9), 1);
        Check.same("23: that WAIT", done.many(8), 0);
        for (int wrong : new int[] {-1, 17, LEAST, MOST}) {
            Check.raises(mill, "23: many(" + wrong + ")", ARGUMENT, () -> mill.many(wrong));
        }
    }

    private static void ofOwner() {
        TideMill mill = Mills.strong();
        mill.pair();
        Check.same("24: without LOTS", mill.ofOwner(0, true), 0);
        mill.lot(0, 0, 4, 0);
        mill.lot(3, 1, 60, 0);
        mill.lot(0, 2, 7, 0);
        mill.lot(2, 0, 1, 0);
        mill.feed(0, 0);
        mill.pass(1);
        int[] all = {11, 0, 1, 60};
        for (int owner = 0; owner <= 3; owner++) {
            Check.same("24: DONE counts", mill.ofOwner(owner, false), all[owner]);
            Check.same("24: all", mill.ofOwner(owner, true), all[owner]);
        }
        mill.give(0);
        Check.same("24: GIVEN does not count", mill.ofOwner(0, false), 7);
        Check.same("24: GIVEN counts with all", mill.ofOwner(0, true), 11);
        for (int wrong : new int[] {-1, 4, LEAST, MOST}) {
            Check.raises(mill, "24: ofOwner(" + wrong + ", true)", INDEX, () -> mill.ofOwner(wrong, true));
            Check.raises(mill, "24: ofOwner(" + wrong + ", false)", INDEX, () -> mill.ofOwner(wrong, false));
        }
    }
}
