/**
 * Runs of 512 calls, ordinary ones and wild ones, on BoatSets and on PlainModel side by side. The
 * numbers that choose the calls come from a fixed row, so that every run is the same each time.
 * What an object answers behind its 512th call is free, so no run makes more.
 */
public final class ModelTest {
    private static final int RUNS = 2000;
    private static final int CALLS = 512;
    private static final int[] WILD = {-1, 6, 2047, 2048, 10000, Integer.MIN_VALUE, Integer.MAX_VALUE, 256, 255, -5};

    private static long seed;
    private static BoatSets x;
    private static PlainModel m;
    private static int calls;

    public static void main(String[] args) {
        for (int run = 0; run < RUNS; run++) {
            seed = 77L * run + 5;
            x = new BoatSets();
            m = new PlainModel();
            calls = 0;
            while (calls < CALLS) {
                oneCall(run);
            }
        }
        Check.finish();
    }

    private static void alike(String call, int got, int want) {
        calls++;
        Check.due(call, got, want);
    }

    private static int below(int bound) {
        seed = seed * 6364136223846793005L + 1442695040888963407L;
        return (int) ((seed >>> 33) % bound);
    }

    /** Mostly a good value, seldom a wild one. */
    private static int some(int bound) {
        return below(40) == 0 ? WILD[below(WILD.length)] : below(bound);
    }

    private static int aSet(int run) {
        return some(Math.max(1, Math.min(run % 7, m.count(0))));
    }

    /** Some runs keep to few numbers, so that boats fill, and runs meet. */
    private static int aNumber(int run) {
        int spread = run % 4 == 0 ? 2048 : run % 4 == 1 ? 60 : run % 4 == 2 ? 300 : 120;
        int number = some(spread);
        return run % 4 == 3 && number < spread && number >= 0 ? number + 200 : number;
    }

    private static int coins(int run) {
        return some(run % 3 == 0 ? 10 : run % 3 == 1 ? 100 : 10000);
    }

    /** One call, or several that belong together. */
    private static void oneCall(int run) {
        int kind = below(100);
        if (kind < 40) {
            numbers(run, kind);
        } else if (kind < 60) {
            setsAndHistory(run);
        } else if (kind < 75) {
            texts(run);
        } else {
            told(run);
        }
    }

    private static void numbers(int run, int kind) {
        int set = aSet(run);
        int from = aNumber(run);
        int to = below(20) == 0 ? aNumber(run) : from + below(run % 5 == 0 ? 40 : 5);
        if (kind < 14) {
            alike(run + " add " + set + " " + from, x.add(set, from), m.add(set, from));
        } else if (kind < 22) {
            alike(run + " remove " + set + " " + from, x.remove(set, from), m.remove(set, from));
        } else if (kind < 31) {
            alike(run + " addRange", x.addRange(set, from, to), m.addRange(set, from, to));
        } else if (kind < 37) {
            alike(run + " removeRange", x.removeRange(set, from, to), m.removeRange(set, from, to));
        } else {
            int how = some(4);
            int one = aSet(run);
            int other = aSet(run);
            alike(run + " combine", x.combine(how, set, one, other), m.combine(how, set, one, other));
        }
    }

    private static void setsAndHistory(int run) {
        int set = aSet(run);
        int coins = coins(run);
        switch (below(12)) {
            case 0:
            case 1:
                alike(run + " newSet", x.newSet(coins), m.newSet(coins));
                break;
            case 2:
            case 3:
                alike(run + " pay", x.pay(set, coins), m.pay(set, coins));
                break;
            case 4:
            case 5:
                alike(run + " sail", x.sail(set), m.sail(set));
                break;
            case 6:
            case 7:
                alike(run + " dock", x.dock(set), m.dock(set));
                break;
            case 8:
            case 9:
                alike(run + " undo", x.undo(), m.undo());
                break;
            case 10:
                alike(run + " keep", x.keep(), m.keep());
                break;
            default:
                alike(run + " restore", x.restore(), m.restore());
                break;
        }
    }

    private static void texts(int run) {
        int kind = below(run % 2 == 0 ? 30 : 12);
        if (kind == 0) {
            alike(run + " clearText", x.clearText(), m.clearText());
        } else if (kind < 3) {
            wholeText(run);
        } else if (kind < 5) {
            int set = aSet(run);
            alike(run + " readRanges", x.readRanges(set), m.readRanges(set));
        } else if (kind < 8) {
            typeAll(run, "" + below(2100));
        } else if (kind < 10) {
            typeAll(run, "-" + (run % 3 == 0 ? below(2048) : 2047 - below(100)));
        } else if (kind < 28) {
            typeAll(run, ",");
        } else {
            typeAll(run, "" + (char) below(200));
        }
    }

    /** A text that is mostly right, and is read at once. */
    private static void wholeText(int run) {
        alike(run + " clearText", x.clearText(), m.clearText());
        int ranges = 1 + below(5);
        for (int range = 0; range < ranges; range++) {
            int from = Math.max(0, Math.min(aNumber(run), 2049));
            typeAll(run, (range == 0 ? "" : ",") + from);
            if (below(2) == 0) {
                typeAll(run, "-" + (from + below(12) - (below(30) == 0 ? 5 : 0)));
            }
        }
        int set = aSet(run);
        if (calls < CALLS) {
            alike(run + " readRanges", x.readRanges(set), m.readRanges(set));
        }
    }

    private static void typeAll(int run, String signs) {
        for (int i = 0; i < signs.length() && calls < CALLS; i++) {
            char sign = signs.charAt(i);
            alike(run + " type", x.type(sign), m.type(sign));
        }
    }

    private static void told(int run) {
        int set = aSet(run);
        int number = aNumber(run);
        int what = some(11);
        int place = some(100);
        switch (below(13)) {
            case 0:
                alike(run + " has", x.has(set, number), m.has(set, number));
                break;
            case 1:
                alike(run + " set " + what, x.set(set, what), m.set(set, what));
                break;
            case 2:
                int bay = some(run % 4 == 0 ? 8 : 2);
                alike(run + " boat " + what, x.boat(set, bay, what), m.boat(set, bay, what));
                break;
            case 3:
                alike(run + " rank", x.rank(set, number), m.rank(set, number));
                break;
            case 4:
                alike(run + " at", x.at(set, place), m.at(set, place));
                break;
            case 5:
                alike(run + " next", x.next(set, number), m.next(set, number));
                break;
            case 6:
                alike(run + " nearest", x.nearest(set, number), m.nearest(set, number));
                break;
            case 7:
                int length = below(2) == 0 ? place : number;
                alike(run + " gap", x.gap(set, length), m.gap(set, length));
                break;
            case 8:
                int other = aSet(run);
                alike(run + " sizeOf", x.sizeOf(what - 3, set, other), m.sizeOf(what - 3, set, other));
                break;
            case 9:
                alike(run + " ofAll", x.ofAll(place), m.ofAll(place));
                break;
            case 10:
                alike(run + " most", x.most(), m.most());
                break;
            case 11:
                alike(run + " tollToDock", x.tollToDock(set), m.tollToDock(set));
                break;
            default:
                whole(run, what);
                break;
        }
    }

    /** Everything that is told of all sets, as far as the calls reach. */
    private static void whole(int run, int what) {
        alike(run + " count " + what, x.count(what), m.count(what));
        for (int i = 0; i <= 10 && calls < CALLS; i++) {
            alike(run + " count " + i, x.count(i), m.count(i));
        }
        for (int set = 0; set < m.count(0); set++) {
            for (int i = 0; i < 10 && calls < CALLS; i++) {
                alike(run + " set " + set + " " + i, x.set(set, i), m.set(set, i));
            }
            for (int bay = 0; bay < 8; bay++) {
                for (int i = 0; i < 6 && calls < CALLS; i++) {
                    alike(run + " boat " + bay + " " + i, x.boat(set, bay, i), m.boat(set, bay, i));
                }
            }
        }
    }
}
