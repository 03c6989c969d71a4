/** All promises: long runs of calls, right and wrong ones, on a TideMill and on the Model at once. */
public final class RunsTest {
    private static final int RUNS = 2000;
    // Three calls each: with those of begin() and compareAll(), fewer than the 512 that are promised.
    private static final int STEPS = 110;
    private static final int[] WILD = {Integer.MIN_VALUE, -1000, -9, -2, -1, 61, 101, 1001, 5001, Integer.MAX_VALUE};

    private interface Ask {
        Object answer();
    }

    private long seed;
    private final TideMill mill = new TideMill();
    private final Model model = new Model();
    private final StringBuilder told = new StringBuilder();

    private RunsTest(long seed) {
        this.seed = seed;
    }

    public static void main(String[] args) {
        for (int run = 1; run <= RUNS; run++) {
            new RunsTest(run).run(run % 4);
        }
        Check.finish("RunsTest");
    }

    /** A number of 0 to below the bound; written here, so that each run is the same each time. */
    private int below(int bound) {
        seed = seed * 6364136223846793005L + 1442695040888963407L;
        return (int) ((seed >>> 33) % bound);
    }

    private int about(int most) {
        return below(25) == 0 ? WILD[below(WILD.length)] : below(30) == 0 ? most + 1 : below(most + 1);
    }

    private void run(int kind) {
        begin(kind);
        for (int step = 0; step < STEPS; step++) {
            tell(kind);
            ask();
            ask();
        }
        compareAll();
    }

    /** Each kind starts where other things happen: lots of grain, late days, little water, none of all. */
    private void begin(int kind) {
        if (kind == 1) {
            for (int i = 0; i < 45; i++) {
                both("pass(100)", () -> mill.pass(100), () -> model.pass(100));
            }
        }
        if (kind >= 2) {
            for (int i = 0; i < 3; i++) {
                both("pair()", () -> mill.pair(), () -> model.pair());
            }
            both("gates(3)", () -> mill.gates(3), () -> model.gates(3));
        }
        if (kind == 3) {
            both("moon(12)", () -> mill.moon(12), () -> model.moon(12));
            both("sluice(4)", () -> mill.sluice(4), () -> model.sluice(4));
        }
    }

    private void tell(int kind) {
        int a = about(2);
        int b = about(9);
        switch (below(22)) {
            case 0:
                int age = about(29);
                both("moon(" + age + ")", () -> mill.moon(age), () -> model.moon(age));
                break;
            case 1:
                int quarters = about(16) - 8;
                both("surge(" + quarters + ")", () -> mill.surge(quarters), () -> model.surge(quarters));
                break;
            case 2:
                int gates = about(3);
                both("gates(" + gates + ")", () -> mill.gates(gates), () -> model.gates(gates));
                break;
            case 3:
                int sluice = about(4);
                both("sluice(" + sluice + ")", () -> mill.sluice(sluice), () -> model.sluice(sluice));
                break;
            case 4:
                boolean isOpen = below(3) == 0;
                both("scour(" + isOpen + ")", () -> mill.scour(isOpen), () -> model.scour(isOpen));
                break;
            case 5:
                int from = below(4) == 0 ? 0 : about(47);
                int to = from == 0 ? 47 : about(47);
                both("hours(" + from + ", " + to + ")", () -> mill.hours(from, to), () -> model.hours(from, to));
                break;
            case 6:
                boolean is = below(3) == 0;
                both("lock(" + is + ")", () -> mill.lock(is), () -> model.lock(is));
                break;
            case 7:
                both("bell()", () -> mill.bell(), () -> model.bell());
                break;
            case 8:
                both("pair()", () -> mill.pair(), () -> model.pair());
                break;
            case 9:
            case 10:
                int weight = kind == 2 ? 1 + about(20) : 1 + about(59);
                int grain = about(2);
                int days = about(30) / 4;
                int owner = about(3);
                both("lot(" + owner + ", " + grain + ", " + weight + ", " + days + ")",
                        () -> mill.lot(owner, grain, weight, days), () -> model.lot(owner, grain, weight, days));
                break;
            case 11:
            case 12:
            case 13:
            case 14:
                both("feed(" + a + ", " + b + ")", () -> mill.feed(a, b), () -> model.feed(a, b));
                break;
            case 15:
                both("take(" + a + ")", () -> mill.take(a), () -> model.take(a));
                break;
            case 16:
                both("dress(" + a + ")", () -> mill.dress(a), () -> model.dress(a));
                break;
            case 17:
                both("give(" + b + ")", () -> mill.give(b), () -> model.give(b));
                break;
            default:
                int ticks = kind == 1 ? 1 + about(5) : 1 + about(below(3) == 0 ? 99 : 11);
                both("pass(" + ticks + ")", () -> mill.pass(ticks), () -> model.pass(ticks));
        }
    }

    private void ask() {
        int pair = about(2);
        int lot = about(9);
        switch (below(11)) {
            case 0:
                int ofMany = about(16);
                both("many(" + ofMany + ")", () -> mill.many(ofMany), () -> model.many(ofMany));
                break;
            case 1:
                int ofPond = about(5);
                both("pond(" + ofPond + ")", () -> mill.pond(ofPond), () -> model.pond(ofPond));
                break;
            case 2:
                int ofPair = about(2);
                both("ofPair(" + pair + ", " + ofPair + ")",
                        () -> mill.ofPair(pair, ofPair), () -> model.ofPair(pair, ofPair));
                break;
            case 3:
                both("dull(" + pair + ")", () -> mill.dull(pair), () -> model.dull(pair));
                break;
            case 4:
                int ofLot = about(5);
                both("ofLot(" + lot + ", " + ofLot + ")", () -> mill.ofLot(lot, ofLot), () -> model.ofLot(lot, ofLot));
                break;
            case 5:
                both("left(" + lot + ")", () -> mill.left(lot), () -> model.left(lot));
                break;
            case 6:
                int ahead = about(1000);
                both("sea(" + ahead + ")", () -> mill.sea(ahead), () -> model.sea(ahead));
                break;
            case 7:
                int ticks = about(100);
                both("wouldLevel(" + ticks + ")", () -> mill.wouldLevel(ticks), () -> model.wouldLevel(ticks));
                break;
            case 8:
                both("wouldDone(" + lot + ")", () -> mill.wouldDone(lot), () -> model.wouldDone(lot));
                break;
            case 9:
                int span = about(48);
                both("best(" + span + ")", () -> mill.best(span), () -> model.best(span));
                break;
            default:
                both("high()", () -> mill.high(), () -> model.high());
        }
    }

    private void compareAll() {
        for (int i = 0; i <= 16; i++) {
            int what = i;
            both("many(" + what + ")", () -> mill.many(what), () -> model.many(what));
            both("pond(" + what + ")", () -> mill.pond(what), () -> model.pond(what));
        }
        for (int i = -1; i <= 10; i++) {
            int one = i;
            both("dull(" + one + ")", () -> mill.dull(one), () -> model.dull(one));
            both("left(" + one + ")", () -> mill.left(one), () -> model.left(one));
            both("wouldDone(" + one + ")", () -> mill.wouldDone(one), () -> model.wouldDone(one));
            both("ofOwner(" + one + ", true)", () -> mill.ofOwner(one, true), () -> model.ofOwner(one, true));
            both("ofOwner(" + one + ", false)", () -> mill.ofOwner(one, false), () -> model.ofOwner(one, false));
        }
    }

    private void both(String call, Ask ofMill, Ask ofModel) {
        String got = answerOf(ofMill);
        String due = answerOf(ofModel);
        told.append(call).append(" -> ").append(due).append("; ");
        Check.same(got.equals(due) ? call : "behind " + told, got, due);
    }

    private static String answerOf(Ask ask) {
        try {
            return String.valueOf(ask.answer());
        } catch (RuntimeException e) {
            return "throws." + e.getClass().getSimpleName();
        }
    }
}
