/** The ways to go on by some beats; all of them come to the same chip. */
enum Way {
    BY_EVENTS, BY_BEATS, IN_PIECES, TO_EVENTS;

    /** Returns the number of edges, as the calls answered it. */
    int go(Tickstation chip, int beats) {
        int edges = 0;
        int left = beats;
        for (int call = 1; left > 0; call++) {
            int piece = Math.min(left, piece(chip, call));
            boolean byBeats = this == BY_BEATS || this == IN_PIECES && call % 2 == 0;
            edges += byBeats ? chip.runByBeats(piece) : chip.run(piece);
            left -= piece;
        }
        return edges;
    }

    private int piece(Tickstation chip, int call) {
        switch (this) {
            case BY_EVENTS:
                return 5000;
            case BY_BEATS:
                return 500;
            case IN_PIECES:
                return Math.min(call, 500);
            default:
                return Math.min(toEvent(chip), 5000);
        }
    }

    private static int toEvent(Tickstation chip) {
        try {
            return chip.toEvent();
        } catch (java.util.NoSuchElementException e) {
            return 5000;
        }
    }
}
