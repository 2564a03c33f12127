/** Great debts by few calls: debts of 1000000 that many fairs have carried. */
final class Debts {
    static final long MOST = 1000000000L;
    static final int SEED = 1000000;

    private Debts() {
    }

    /**
     * Carries debts of 1000000 (all that are owed) up to the greatest that is not above the limit and
     * that a last gain below 200 reaches: answers it. It is day 0 of a fair, before and behind; some 45
     * calls. GAIN is 0 behind that.
     */
    static long carryNear(ChangerFair x, long limit) {
        long debt = SEED;
        x.gain(200);
        while (debt + debt / 5 <= limit) {
            x.days(28);
            debt += debt / 5;
        }
        int gain = 200;
        while (debt + debt * gain / 1000 > limit) {
            gain--;
        }
        x.gain(gain);
        x.days(28);
        x.gain(0);
        return debt + debt * gain / 1000;
    }

    /** A house that nobody owes and that owes nobody comes to owe another one v (1000000 or more). */
    static void grow(ChangerFair x, int house, int other, long v) {
        x.owe(house, other, SEED);
        long debt = carryNear(x, v);
        if (debt < v) {
            x.owe(house, other, (int) (v - debt));
        }
    }

    /** House 0 owes house 1 just the most, the only debt; it is day 0 of a fair. */
    static ChangerFair full() {
        ChangerFair x = new ChangerFair();
        grow(x, 0, 1, MOST);
        return x;
    }

    /** House 0 owes house 1 the most and an excess, heaped up by clearing, the only debt; it is day 0 of a fair. */
    static ChangerFair heaped(int excess) {
        ChangerFair x = new ChangerFair();
        heap(x, excess);
        return x;
    }

    /** The same in an object in which nothing is owed yet. */
    static void heap(ChangerFair x, int excess) {
        x.owe(0, 1, SEED);
        x.owe(0, 2, SEED);
        x.owe(2, 1, SEED);
        long left = MOST + excess - 2 * carryNear(x, (MOST + excess) / 2);
        while (left > 0) {
            int v = (int) Math.min(left, (long) SEED);
            x.owe(0, 1, v);
            left -= v;
        }
        x.clear();
    }
}
