/** Objects to begin a test with. Ranges are rows of numbers: the two ends of each range, one after the other. */
final class Made {
    private Made() {
    }

    /**
     * Set 0 with a purse and these ranges in boats of the best kind, for which nothing was paid;
     * set 1, with a full purse before its tolls, has the same numbers.
     */
    static BoatSets withBest(int coins, int... ranges) {
        BoatSets x = Check.withSet(coins);
        x.newSet(9999);
        addAll(x, 1, ranges);
        x.combine(0, 0, 1, 1);
        return x;
    }

    /** The same, but set 0 is at sea. */
    static BoatSets atSea(int coins, int... ranges) {
        BoatSets x = withBest(coins, ranges);
        x.sail(0);
        return x;
    }

    static void addAll(BoatSets x, int set, int... ranges) {
        for (int i = 0; i < ranges.length; i += 2) {
            x.addRange(set, ranges[i], ranges[i + 1]);
        }
    }

    /** So many runs of so many numbers each, as many missing between two as one wants. */
    static int[] runs(int from, int runs, int each, int missing) {
        int[] ranges = new int[2 * runs];
        for (int run = 0; run < runs; run++) {
            int start = from + run * (each + missing);
            ranges[2 * run] = start;
            ranges[2 * run + 1] = start + each - 1;
        }
        return ranges;
    }

    static int[] singles(int from, int how) {
        return runs(from, how, 1, 1);
    }

    /** Eight runs of four in bay 0, from 0, 8, 16 .. 56 on. */
    static int[] eightRuns() {
        return runs(0, 8, 4, 4);
    }

    /** Rows in one bay each, made at sea and without a toll; the purse is put in after that. */
    static BoatSets rowsAtSea(int coins, int... ranges) {
        BoatSets x = Check.withSet(0);
        x.sail(0);
        addAll(x, 0, ranges);
        if (coins > 0) {
            x.pay(0, coins);
        }
        return x;
    }

    /** Takes the history down to one state, and keeps all else as it is (the snapshot is the state then). */
    static void shortenHistory(BoatSets x) {
        x.keep();
        for (int i = 0; i < 4; i++) {
            x.undo();
        }
        x.restore();
    }
}
