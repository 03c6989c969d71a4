/** What a mill answers without being changed, as one text. */
final class Portrait {
    private Portrait() {
    }

    /** All of it: some 140 calls of a full mill. */
    static String of(TideMill mill) {
        StringBuilder text = new StringBuilder();
        for (int what = 0; what <= 16; what++) {
            text.append(mill.many(what)).append(' ');
        }
        for (int what = 0; what <= 5; what++) {
            text.append(mill.pond(what)).append(' ');
        }
        addPairs(text, mill);
        addLots(text, mill);
        for (int owner = 0; owner <= 3; owner++) {
            text.append(mill.ofOwner(owner, true)).append(' ').append(mill.ofOwner(owner, false)).append(' ');
        }
        text.append(mill.high()).append(' ').append(mill.sea(0)).append(' ').append(mill.sea(49)).append(' ');
        for (int ticks : new int[] {1, 2, 25, 50, 100}) {
            text.append(mill.wouldLevel(ticks)).append(' ');
        }
        text.append(mill.best(1)).append(' ').append(mill.best(48)).append(' ').append(mill.digest());
        return text.toString();
    }

    /** What six calls tell; most of it by the digest. */
    static String brief(TideMill mill) {
        StringBuilder text = new StringBuilder();
        text.append(mill.digest()).append(' ').append(mill.pond(0)).append(' ').append(mill.pond(3)).append(' ');
        text.append(mill.sea(0)).append(' ').append(mill.sea(49)).append(' ').append(mill.wouldLevel(50));
        return text.toString();
    }

    private static void addPairs(StringBuilder text, TideMill mill) {
        int pairs = mill.many(6);
        for (int pair = 0; pair < pairs; pair++) {
            for (int what = 0; what <= 2; what++) {
                text.append(mill.ofPair(pair, what)).append(' ');
            }
            text.append(mill.dull(pair)).append(' ');
        }
    }

    private static void addLots(StringBuilder text, TideMill mill) {
        int lots = mill.many(7);
        for (int lot = 0; lot < lots; lot++) {
            for (int what = 0; what <= 5; what++) {
                text.append(mill.ofLot(lot, what)).append(' ');
            }
            text.append(mill.left(lot)).append(' ').append(mill.wouldDone(lot)).append(' ');
        }
    }
}
