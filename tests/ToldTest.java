/** Promises 1 to 9: a new object, and what is told. */
public final class ToldTest {
    private static final Class<IllegalArgumentException> ARGUMENT = IllegalArgumentException.class;
    private static final Class<IllegalStateException> STATE = IllegalStateException.class;
    private static final int LEAST = Integer.MIN_VALUE;
    private static final int MOST = Integer.MAX_VALUE;

    public static void main(String[] args) {
        newObject();
        moon();
        surge();
        gates();
        sluice();
        scour();
        hours();
        lock();
        bell();
        Check.finish("ToldTest");
    }

    private static void newObject() {
        TideMill mill = new TideMill();
        for (int what = 0; what <= 16; what++) {
            Check.same("1: many(" + what + ") of a new mill", mill.many(what), what == 14 ? 1 : 0);
        }
        double[] pond = {0.0, 0.0, 8.0, 0.0, 0.0, 4.0};
        for (int what = 0; what <= 5; what++) {
            Check.same("1: pond(" + what + ") of a new mill", mill.pond(what), pond[what]);
        }
        Check.same("1: sea(0) of a new mill", mill.sea(0), -2.0);
        Check.same("1: scour was shut", mill.scour(false), false);
        Check.same("1: was not locked", mill.lock(false), false);
        Check.same("1: gates were 0", mill.gates(0), 0);
        Check.same("1: sluice was 0", mill.sluice(0), 0);
        Check.same("1: digest of a new mill", mill.digest(), 9073760718062058517L);
        for (int tick = 0; tick < 48; tick++) {
            Check.same("1: awake on tick " + tick, mill.many(14), 1);
            mill.pass(1);
        }
        Check.same("1: a mill of its own", new TideMill().many(0), 0);
    }

    private static void moon() {
        TideMill mill = new TideMill();
        for (int age = 0; age <= 29; age++) {
            Check.same("2: moon(" + age + ") on day 0", mill.moon(age), age);
        }
        int[] ages = {0, 1, 7, 8, 14, 15, 16, 22, 23, 29};
        int[] springs = {0, 1, 7, 7, 1, 0, 1, 7, 7, 1};
        for (int i = 0; i < ages.length; i++) {
            mill.moon(ages[i]);
            Check.same("2: AGE of moon " + ages[i], mill.many(2), ages[i]);
            Check.same("2: SPRING of moon " + ages[i], mill.many(3), springs[i]);
            Check.same("2: RANGE of moon " + ages[i], mill.pond(5), 4.0 - 0.25 * springs[i]);
        }
        TideMill later = Mills.at(96);
        Check.same("2: moon(29) on day 2", later.moon(29), 1);
        Check.same("2: moon(28) on day 2", later.moon(28), 0);
        Check.same("2: moon(0) on day 2", later.moon(0), 2);
        for (int wrong : new int[] {-1, 30, LEAST, MOST}) {
            Check.raises(later, "2: moon(" + wrong + ")", ARGUMENT, () -> later.moon(wrong));
        }
    }

    private static void surge() {
        TideMill mill = new TideMill();
        for (int quarters = -8; quarters <= 8; quarters++) {
            Check.same("3: surge(" + quarters + ")", mill.surge(quarters), quarters / 4.0 - 2.0);
            Check.same("3: sea(12) after it", mill.sea(12), quarters / 4.0 + 2.0);
        }
        TideMill later = Mills.at(6);
        Check.same("3: surge(3) on tick 6", later.surge(3), 0.75);
        for (int wrong : new int[] {-9, 9, LEAST, MOST}) {
            Check.raises(later, "3: surge(" + wrong + ")", ARGUMENT, () -> later.surge(wrong));
        }
    }

    private static void gates() {
        TideMill mill = new TideMill();
        int before = 0;
        for (int gates : new int[] {3, 1, 2, 2, 0, 3}) {
            Check.same("4: gates(" + gates + ")", mill.gates(gates), before);
            Check.same("4: GATES", mill.many(4), gates);
            before = gates;
        }
        for (int wrong : new int[] {-1, 4, LEAST, MOST}) {
            Check.raises(mill, "4: gates(" + wrong + ")", ARGUMENT, () -> mill.gates(wrong));
        }
        mill.lock(true);
        for (int gates = 0; gates <= 3; gates++) {
            int told = gates;
            Check.raises(mill, "4: gates(" + told + ") locked", STATE, () -> mill.gates(told));
        }
        Check.raises(mill, "4: gates(4) locked", ARGUMENT, () -> mill.gates(4));
        Check.raises(mill, "4: gates(-1) locked", ARGUMENT, () -> mill.gates(-1));
        Check.same("4: GATES stay", mill.many(4), 3);
        Check.same("4: locked out is not REFUSED", mill.many(15), 0);
        mill.lock(false);
        Check.same("4: gates(1) unlocked", mill.gates(1), 3);
        Check.same("4: GATES then", mill.many(4), 1);
    }

    private static void sluice() {
        TideMill mill = new TideMill();
        int before = 0;
        mill.lock(true);
        for (int sluice : new int[] {4, 1, 3, 3, 2, 0, 4}) {
            Check.same("5: sluice(" + sluice + ")", mill.sluice(sluice), before);
            Check.same("5: SLUICE", mill.many(5), sluice);
            before = sluice;
        }
        for (int wrong : new int[] {-1, 5, LEAST, MOST}) {
            Check.raises(mill, "5: sluice(" + wrong + ")", ARGUMENT, () -> mill.sluice(wrong));
        }
    }

    private static void scour() {
        TideMill mill = Mills.filled(24);
        Check.same("6: scour(true)", mill.scour(true), false);
        Check.same("6: scour(true) again", mill.scour(true), true);
        mill.pass(1);
        Check.same("6: LEVEL is scoured", mill.pond(0), 0.5);
        Check.same("6: SILT is scoured, 0f at least", mill.pond(1), 0.0);
        Check.same("6: scour(false)", mill.scour(false), true);
        Check.same("6: scour(false) again", mill.scour(false), false);
        mill.pass(1);
        Check.same("6: LEVEL stays", mill.pond(0), 0.5);
    }

    private static void hours() {
        int[][] hours = {{0, 47}, {5, 5}, {0, 0}, {47, 47}, {10, 20}, {20, 10}, {47, 0}, {1, 0}, {24, 23}};
        for (int tick = 0; tick < 49; tick++) {
            TideMill mill = Mills.at(tick);
            for (int[] pair : hours) {
                int hour = tick % 48;
                boolean isIn = false;
                for (int at = pair[0]; ; at = (at + 1) % 48) {
                    isIn |= at == hour;
                    if (at == pair[1]) {
                        break;
                    }
                }
                String what = "7: hours(" + pair[0] + ", " + pair[1] + ") on tick " + tick;
                Check.same(what, mill.hours(pair[0], pair[1]), isIn);
                Check.same(what + ", many(14)", mill.many(14), isIn ? 1 : 0);
            }
        }
        TideMill mill = Mills.at(49);
        mill.hours(3, 4);
        for (int wrong : new int[] {-1, 48, LEAST, MOST}) {
            Check.raises(mill, "7: hours(" + wrong + ", 0)", ARGUMENT, () -> mill.hours(wrong, 0));
            Check.raises(mill, "7: hours(0, " + wrong + ")", ARGUMENT, () -> mill.hours(0, wrong));
        }
        Check.same("7: hours stay when refused (tick 49)", mill.many(14), 0);
        mill.pass(2);
        Check.same("7: hours stay when refused (tick 51)", mill.many(14), 1);
    }

    private static void lock() {
        TideMill mill = new TideMill();
        boolean before = false;
        for (boolean is : new boolean[] {true, true, false, false, true}) {
            Check.same("8: lock(" + is + ")", mill.lock(is), before);
            Check.same("8: LOCKED", mill.many(16), is ? 1 : 0);
            before = is;
        }
    }

    private static void bell() {
        TideMill mill = new TideMill();
        Check.same("9: bell() unlocked", mill.bell(), 1);
        mill.lock(true);
        Check.same("9: bell() locked", mill.bell(), 2);
        Check.same("9: it is still locked", mill.many(16), 1);
        mill.lock(false);
        Check.same("9: bell() unlocked again", mill.bell(), 3);
        Check.same("9: it is still unlocked", mill.many(16), 0);
        Check.same("9: REFUSED", mill.many(15), 3);
        Check.same("9: who rings holds nothing", mill.gates(2), 0);
    }
}
