import java.util.function.Consumer;
import java.util.function.Supplier;

/** Two mills made by the same calls, one of which has a call more: do later calls show it? */
final class Twin {
    private Twin() {
    }

    /** The call throws just that kind, and no later call shows that it was made. */
    static void refused(String what, Supplier<TideMill> made, Class<? extends RuntimeException> kind,
            Consumer<TideMill> call) {
        TideMill mill = made.get();
        Check.same(what, Check.thrownBy(() -> call.accept(mill)), kind.getSimpleName());
        Check.same(what + ", and later calls", laterOf(mill), laterOf(made.get()));
    }

    /** The call answers, and no later call shows that it was made. */
    static void asked(String what, Supplier<TideMill> made, Consumer<TideMill> call) {
        TideMill mill = made.get();
        Check.same(what, Check.thrownBy(() -> call.accept(mill)), "nothing");
        Check.same(what + ", and later calls", laterOf(mill), laterOf(made.get()));
    }

    /** What some 420 calls answer: all questions, each told thing as it was, the HOURS of a whole DAY. */
    static String laterOf(TideMill mill) {
        StringBuilder text = new StringBuilder(Portrait.of(mill));
        add(text, () -> mill.gates(1));
        add(text, () -> mill.lock(false));
        add(text, () -> mill.gates(2));
        add(text, () -> mill.scour(true));
        add(text, () -> mill.sluice(3));
        for (int tick = 0; tick < 48; tick++) {
            add(text, () -> mill.pass(1));
            add(text, () -> mill.many(14));
        }
        add(text, () -> mill.bell());
        add(text, () -> mill.pair());
        add(text, () -> mill.lot(1, 1, 9, 2));
        for (int i = 0; i < 3; i++) {
            int pair = i;
            add(text, () -> mill.take(pair));
            add(text, () -> mill.dress(pair));
        }
        for (int i = 0; i < 11; i++) {
            int lot = i;
            add(text, () -> mill.give(lot));
            add(text, () -> mill.feed(lot % 3, lot));
        }
        add(text, () -> mill.pass(20));
        return text.append(Portrait.of(mill)).toString();
    }

    private interface Ask {
        Object answer();
    }

    private static void add(StringBuilder text, Ask ask) {
        try {
            text.append(ask.answer());
        } catch (RuntimeException e) {
            text.append(e.getClass().getSimpleName());
        }
        text.append(' ');
    }
}
