/** Promises 10 to 15: stones and lots. */
public final class StonesTest {
    private static final Class<IllegalArgumentException> ARGUMENT = IllegalArgumentException.class;
    private static final Class<IllegalStateException> STATE = IllegalStateException.class;
    private static final Class<IndexOutOfBoundsException> INDEX = IndexOutOfBoundsException.class;
    private static final int LEAST = Integer.MIN_VALUE;
    private static final int MOST = Integer.MAX_VALUE;

    public static void main(String[] args) {
        pair();
        lot();
        lotWrong();
        feed();
        take();
        dress();
        give();
        giveLate();
        Check.finish("StonesTest");
    }

    private static void pair() {
        TideMill mill = new TideMill();
        for (int pair = 0; pair < 3; pair++) {
            Check.same("10: pair()", mill.pair(), pair);
            Check.same("10: PAIRS", mill.many(6), pair + 1);
            Check.same("10: its LOT", mill.ofPair(pair, 0), -1);
            Check.same("10: its DRESSING", mill.ofPair(pair, 1), 0);
            Check.same("10: its SPARKS", mill.ofPair(pair, 2), 0);
            Check.same("10: its DULL", mill.dull(pair), 0.0);
        }
        Check.raises(mill, "10: a fourth pair()", STATE, () -> mill.pair());
    }

    private static void lot() {
        TideMill mill = Mills.at(100);
        int[][] lots = {{0, 0, 1, 0}, {3, 2, 60, 30}, {1, 1, 17, 5}, {2, 0, 8, 1}};
        for (int lot = 0; lot < lots.length; lot++) {
            int[] told = lots[lot];
            Check.same("11: lot()", mill.lot(told[0], told[1], told[2], told[3]), lot);
            Check.same("11: LOTS", mill.many(7), lot + 1);
            Check.same("11: LOTS that WAIT", mill.many(8), lot + 1);
        }
        for (int lot = 0; lot < lots.length; lot++) {
            int[] told = lots[lot];
            Check.same("11: OWNER", mill.ofLot(lot, 0), told[0]);
            Check.same("11: GRAIN", mill.ofLot(lot, 1), told[1]);
            Check.same("11: WEIGHT", mill.ofLot(lot, 2), told[2]);
            Check.same("11: DUE DAY (from day 2)", mill.ofLot(lot, 3), 2 + told[3]);
            Check.same("11: STATE", mill.ofLot(lot, 4), 0);
            Check.same("11: its PAIR", mill.ofLot(lot, 5), -1);
            Check.same("11: LEFT", mill.left(lot), (double) told[2]);
        }
    }

    private static void lotWrong() {
        TideMill mill = new TideMill();
        for (int lot = 0; lot < 10; lot++) {
            int[][] wrong = {
                {-1, 0, 1, 0}, {4, 0, 1, 0}, {0, -1, 1, 0}, {0, 3, 1, 0}, {0, 0, 0, 0}, {0, 0, 61, 0},
                {0, 0, 1, -1}, {0, 0, 1, 31}, {LEAST, 0, 1, 0}, {0, MOST, 1, 0}, {0, 0, LEAST, 0}, {0, 0, 1, MOST},
            };
            int[] w = wrong[lot];
            Check.raises(mill, "11: wrong lot " + lot, ARGUMENT, () -> mill.lot(w[0], w[1], w[2], w[3]));
            int[] x = wrong[(lot + 2) % wrong.length];
            Check.raises(mill, "11: wrong lot " + (lot + 2), ARGUMENT, () -> mill.lot(x[0], x[1], x[2], x[3]));
            Check.same("11: lot()", mill.lot(lot % 4, lot % 3, 1 + lot, lot), lot);
        }
        Check.raises(mill, "11: an eleventh lot", STATE, () -> mill.lot(0, 0, 1, 0));
        Check.raises(mill, "11: a wrong eleventh lot", ARGUMENT, () -> mill.lot(0, 0, 61, 0));
    }

    private static TideMill withLots(int pairs, int lots) {
        TideMill mill = new TideMill();
        for (int pair = 0; pair < pairs; pair++) {
            mill.pair();
        }
        for (int lot = 0; lot < lots; lot++) {
            mill.lot(lot % 4, lot % 3, 10 + lot, 3);
        }
        return mill;
    }

    private static void feed() {
        TideMill mill = withLots(2, 3);
        for (int wrong : new int[] {-1, 2, LEAST, MOST}) {
            Check.raises(mill, "12: feed(" + wrong + ", 0)", INDEX, () -> mill.feed(wrong, 0));
        }
        for (int wrong : new int[] {-1, 3, LEAST, MOST}) {
            Check.raises(mill, "12: feed(0, " + wrong + ")", INDEX, () -> mill.feed(0, wrong));
        }
        Check.same("12: feed(1, 2)", mill.feed(1, 2), 2);
        Check.same("12: its PAIR has it", mill.ofPair(1, 0), 2);
        Check.same("12: its STATE", mill.ofLot(2, 4), 1);
        Check.same("12: the LOT knows its PAIR", mill.ofLot(2, 5), 1);
        Check.same("12: LOTS that WAIT", mill.many(8), 2);
        Check.raises(mill, "12: the LOT is at a PAIR", STATE, () -> mill.feed(0, 2));
        Check.raises(mill, "12: the PAIR has a LOT", STATE, () -> mill.feed(1, 0));
        Check.raises(mill, "12: no such LOT, and the PAIR has one", INDEX, () -> mill.feed(1, 3));
        Check.same("12: feed(0, 0)", mill.feed(0, 0), 1);

        TideMill dressed = withLots(1, 1);
        dressed.dress(0);
        Check.raises(dressed, "12: the PAIR has a DRESSING", STATE, () -> dressed.feed(0, 0));
        dressed.pass(2);
        Check.raises(dressed, "12: the PAIR still has a DRESSING", STATE, () -> dressed.feed(0, 0));
        dressed.pass(1);
        Check.same("12: DRESSING is over", dressed.feed(0, 0), 0);

        TideMill done = doneMill();
        Check.raises(done, "12: the LOT is DONE", STATE, () -> done.feed(0, 0));
        done.give(0);
        Check.raises(done, "12: the LOT is GIVEN", STATE, () -> done.feed(0, 0));
    }

    private static void take() {
        TideMill mill = Mills.strong();
        mill.pair();
        mill.pair();
        mill.lot(0, 0, 10, 0);
        mill.lot(0, 0, 10, 0);
        for (int wrong : new int[] {-1, 2, LEAST, MOST}) {
            Check.raises(mill, "13: take(" + wrong + ")", INDEX, () -> mill.take(wrong));
        }
        Check.raises(mill, "13: the PAIR has none", STATE, () -> mill.take(0));
        mill.feed(0, 1);
        mill.pass(1);
        Check.same("13: LEFT before", mill.left(1), 6.0);
        Check.same("13: take(0)", mill.take(0), 1);
        Check.same("13: LEFT stays", mill.left(1), 6.0);
        Check.same("13: it WAITS again", mill.ofLot(1, 4), 0);
        Check.same("13: its PAIR", mill.ofLot(1, 5), -1);
        Check.same("13: the LOT of the PAIR", mill.ofPair(0, 0), -1);
        Check.same("13: DULL stays", mill.dull(0), 0.015625);
        Check.raises(mill, "13: it was taken", STATE, () -> mill.take(0));
        Check.same("13: it can be fed again", mill.feed(1, 1), 1);
        Check.same("13: and taken again", mill.take(1), 1);

        TideMill done = doneMill();
        Check.raises(done, "13: a DONE LOT is off", STATE, () -> done.take(0));
    }

    private static void dress() {
        TideMill mill = withLots(2, 1);
        for (int wrong : new int[] {-1, 2, LEAST, MOST}) {
            Check.raises(mill, "14: dress(" + wrong + ")", INDEX, () -> mill.dress(wrong));
        }
        Check.same("14: dress() of a sharp one", mill.dress(1), 3);
        Check.same("14: DRESSING", mill.ofPair(1, 1), 3);
        Check.raises(mill, "14: it has a DRESSING", STATE, () -> mill.dress(1));
        mill.feed(0, 0);
        Check.raises(mill, "14: it has a LOT", STATE, () -> mill.dress(0));

        // One spark a pair, as FORCE is 1.5625 and then 0.5625: DULL is 0.125, and 8.0 times that is 1.0.
        TideMill sparked = Mills.strong();
        sparked.pair();
        sparked.pass(1);
        Check.same("14: DULL of one SPARK", sparked.dull(0), 0.125);
        Check.same("14: a whole number is not rounded up", sparked.dress(0), 4);
        sparked.sluice(0);
        sparked.pass(3);
        Check.same("14: DULL while DRESSED", sparked.dull(0), 0.125);
        Check.same("14: DRESSING has 1 left", sparked.ofPair(0, 1), 1);
        sparked.pass(1);
        Check.same("14: DULL then", sparked.dull(0), 0.0);
        Check.same("14: DRESSING then", sparked.ofPair(0, 1), 0);

        // DULL is 1 / 64: 8.0 times that is 0.125, rounded up to 1.
        TideMill ground = doneMill();
        Check.same("14: DULL of one TICK", ground.dull(0), 0.015625);
        Check.same("14: rounded up", ground.dress(0), 4);

        TideMill blunt = Mills.flooded();
        blunt.pair();
        blunt.pass(8);
        Check.same("14: DULL, 1f at most", blunt.dull(0), 1.0);
        Check.same("14: dress() of the dullest", blunt.dress(0), 11);
    }

    /** A LOT of 4 of wheat for OWNER 0, DUE on day 0, is DONE on TICK 25. */
    private static TideMill doneMill() {
        TideMill mill = Mills.strong();
        mill.pair();
        mill.lot(0, 0, 4, 0);
        mill.feed(0, 0);
        mill.pass(1);
        Check.same("the LOT is DONE", mill.ofLot(0, 4), 2);
        return mill;
    }

    private static void give() {
        TideMill mill = doneMill();
        mill.lot(1, 0, 4, 0);
        mill.lot(1, 0, 4, 0);
        for (int wrong : new int[] {-1, 3, LEAST, MOST}) {
            Check.raises(mill, "15: give(" + wrong + ")", INDEX, () -> mill.give(wrong));
        }
        Check.raises(mill, "15: it WAITS", STATE, () -> mill.give(1));
        mill.feed(0, 2);
        Check.raises(mill, "15: it is at a PAIR", STATE, () -> mill.give(2));
        Check.same("15: give(0)", mill.give(0), 3);
        Check.same("15: STATE", mill.ofLot(0, 4), 3);
        Check.same("15: TOLL", mill.pond(4), 0.25);
        Check.same("15: PURSE", mill.many(12), 3);
        Check.same("15: GIVEN", mill.many(10), 1);
        Check.same("15: DONE", mill.many(9), 0);
        Check.raises(mill, "15: it is GIVEN", STATE, () -> mill.give(0));
    }

    /** What a LOT that is brought on DAY 1 brings when it is given on a later one. */
    private static int gainOf(int grain, int weight, int days, int dayOfGiving) {
        TideMill mill = Mills.flooded();
        mill.pair();
        int lot = mill.lot(0, grain, weight, days);
        mill.feed(0, lot);
        mill.pass(10);
        Check.same("15: it is DONE", mill.ofLot(lot, 4), 2);
        Mills.passMany(mill, dayOfGiving * 48 - mill.many(0));
        int gain = mill.give(lot);
        Check.same("15: PURSE is as much more", mill.many(12), gain);
        Check.same("15: TOLL is a sixteenth of the WEIGHT", mill.pond(4), weight / 16.0);
        return gain;
    }

    private static void giveLate() {
        Check.same("15: 7 of wheat", gainOf(0, 7, 9, 2), 5);
        Check.same("15: 7 of rye", gainOf(1, 7, 9, 2), 3);
        Check.same("15: 7 of oats", gainOf(2, 7, 9, 2), 1);
        Check.same("15: 3 of oats", gainOf(2, 3, 9, 2), 0);
        Check.same("15: on the DUE DAY", gainOf(0, 7, 4, 5), 5);
        Check.same("15: one DAY late", gainOf(0, 7, 4, 6), 4);
        Check.same("15: nine DAYS late", gainOf(0, 7, 4, 14), -4);
        Check.same("15: early", gainOf(0, 7, 30, 14), 5);
    }
}
