/** Promises 6 to 10: add, remove, addRange, removeRange, combine. */
public final class NumbersTest {
    public static void main(String[] args) {
        promise06AddChecks();
        promise06AddInHarbour();
        promise06AddAtSea();
        promise06AddRunsAndBays();
        promise07RemoveChecks();
        promise07RemoveAtSea();
        promise07RemoveKeepsKindAtSea();
        promise07RemoveInHarbour();
        promise08AddRangeChecks();
        promise08AddRangeNumberByNumber();
        promise09RemoveRange();
        promise09RemoveRangeFull();
        promise10CombineChecks();
        promise10CombineNumbers();
        promise10CombineBoats();
        promise10CombineKeepsTheRest();
        Check.finish();
    }

    private static void promise06AddChecks() {
        BoatSets x = Check.withSet(9999);
        Check.due("unknown set", x.add(1, 0), -1);
        Check.due("unknown set -1", x.add(-1, 0), -1);
        Check.due("UNKNOWN ahead of BAD_VALUE", x.add(6, 2048), -1);
        Check.due("number -1", x.add(0, -1), -2);
        Check.due("number 2048", x.add(0, 2048), -2);
        Check.due("largest int", x.add(0, Integer.MAX_VALUE), -2);
        Check.due("least int", x.add(0, Integer.MIN_VALUE), -2);
        Check.due("errors are no acts", x.count(9), 1);
        Check.due("number 0", x.add(0, 0), 0);
        Check.due("number 2047", x.add(0, 2047), 0);
        Check.due("there already", x.add(0, 0), -5);
        Check.due("NONE is no act", x.count(9), 3);
        Check.due("two boats", x.set(0, 1), 2);
        x.undo();
        Check.due("undone", x.has(0, 2047), 0);
    }

    private static void promise06AddInHarbour() {
        BoatSets x = Check.withSet(9);
        Check.due("one", x.add(0, 100), 0);
        Check.due("two in a row are runs", x.add(0, 101), 2);
        Check.due("toll 3", x.set(0, 3), 6);
        Check.due("runs take 6, a row of 3 too: a row", x.add(0, 200), 0);
        Check.due("for a toll of 6", x.set(0, 3), 0);
        BoatSets y = Check.withSet(9);
        y.add(0, 10);
        y.add(0, 11);
        y.add(0, 13);
        Check.due("paid 3 + 6", y.set(0, 5), 9);
        Check.due("it keeps its kind without coins", y.add(0, 12), 0);
        BoatSets z = Check.withSet(2);
        z.add(0, 10);
        Check.due("a coin too few", z.add(0, 11), 0);
        Check.due("nothing is paid", z.set(0, 3), 2);
        BoatSets full = Check.withSet(2);
        full.addRange(0, 0, 23);
        int states = full.count(9);
        Check.due("a row of 24 is full", full.add(0, 24), -3);
        Check.due("changes nothing", full.set(0, 0), 24);
        Check.due("FULL is no act", full.count(9), states);
        Check.due("one that is there need not come", full.add(0, 23), -5);
        full.pay(0, 1);
        Check.due("with a coin more", full.add(0, 24), 2);
    }

    private static void promise06AddAtSea() {
        BoatSets x = Check.withSet(9999);
        x.sail(0);
        Check.due("a new boat at sea is a row", x.add(0, 256), 0);
        Check.due("and stays one", x.add(0, 257), 0);
        x.addRange(0, 258, 279);
        Check.due("the 25th", x.add(0, 280), -3);
        Check.due("that is there", x.add(0, 279), -5);
        Check.due("another bay", x.add(0, 255), 0);
        Check.due("no coin goes", x.set(0, 3), 9999);
        x.removeRange(0, 256, 279);
        Check.due("a boat that came anew is a row", x.add(0, 300), 0);
    }

    /** A boat of eight runs of two numbers, four apart, from 0 on; at sea. */
    private static BoatSets eightRuns() {
        BoatSets x = Check.withSet(9999);
        for (int run = 0; run < 8; run++) {
            x.addRange(0, 8 * run, 8 * run + 3);
        }
        x.sail(0);
        return x;
    }

    private static void promise06AddRunsAndBays() {
        BoatSets x = eightRuns();
        Check.due("runs", x.boat(0, 0, 0), 2);
        Check.due("eight", x.boat(0, 0, 2), 8);
        Check.due("a ninth run", x.add(0, 70), -3);
        Check.due("a longer run", x.add(0, 4), 2);
        Check.due("from below", x.add(0, 15), 2);
        Check.due("eight still", x.boat(0, 0, 2), 8);
        x.addRange(0, 5, 7);
        Check.due("joined", x.boat(0, 0, 2), 7);
        Check.due("now there is room", x.add(0, 70), 2);
        Check.due("a run ends with its bay", x.add(0, 255), -3);
        Check.due("a boat of its own", x.add(0, 256), 0);
        Check.due("not joined to the next bay", x.set(0, 6), 9);
        BoatSets y = Check.withSet(100);
        y.add(0, 255);
        y.add(0, 256);
        Check.due("two bays, two boats", y.set(0, 1), 2);
        Check.due("two bays, two runs", y.set(0, 6), 2);
        Check.due("two rows", y.boat(0, 0, 0) + y.boat(0, 1, 0), 0);
        BoatSets z = Check.withSet(0);
        z.add(0, 256);
        z.add(0, 255);
        Check.due("the upper bay first", z.set(0, 6), 2);
        z.add(0, 254);
        Check.due("joined in its bay", z.set(0, 6), 2);
        z.remove(0, 255);
        Check.due("the end of the bay goes", z.set(0, 6), 2);
    }

    private static void promise07RemoveChecks() {
        BoatSets x = Check.withSet(100);
        Check.due("unknown set", x.remove(1, 0), -1);
        Check.due("unknown set -1", x.remove(-1, 0), -1);
        Check.due("UNKNOWN ahead of BAD_VALUE", x.remove(1, -1), -1);
        Check.due("number -1", x.remove(0, -1), -2);
        Check.due("number 2048", x.remove(0, 2048), -2);
        Check.due("not there", x.remove(0, 7), -5);
        Check.due("no acts", x.count(9), 1);
        x.add(0, 7);
        x.add(0, 9);
        x.add(0, 300);
        Check.due("one is left in its boat", x.remove(0, 7), 1);
        Check.due("gone", x.has(0, 7), 0);
        Check.due("the boat is gone", x.remove(0, 9), 0);
        Check.due("one boat", x.set(0, 1), 1);
        Check.due("no boat", x.boat(0, 0, 0), -5);
        x.undo();
        Check.due("undone", x.has(0, 9), 1);
    }

    private static void promise07RemoveAtSea() {
        BoatSets x = eightRuns();
        Check.due("a run would be split", x.remove(0, 1), -3);
        Check.due("changes nothing", x.set(0, 0), 32);
        Check.due("not there comes last", x.remove(0, 4), -5);
        Check.due("from the lower end", x.remove(0, 0), 31);
        Check.due("from the upper end", x.remove(0, 3), 30);
        Check.due("eight runs still", x.boat(0, 0, 2), 8);
        x.remove(0, 1);
        Check.due("one run less", x.remove(0, 2), 28);
        Check.due("seven runs", x.boat(0, 0, 2), 7);
        Check.due("now a split is possible", x.remove(0, 9), 27);
        Check.due("runs at sea", x.boat(0, 0, 0), 2);
    }

    private static void promise07RemoveKeepsKindAtSea() {
        BoatSets x = Check.withSet(3);
        x.addRange(0, 0, 1);
        Check.due("runs", x.boat(0, 0, 0), 2);
        x.sail(0);
        Check.due("one is left", x.remove(0, 0), 1);
        Check.due("runs still", x.boat(0, 0, 0), 2);
        Check.due("the last one", x.remove(0, 1), 0);
        Check.due("no boat", x.boat(0, 0, 0), -5);
        Check.due("a new boat is a row", x.add(0, 1), 0);
        Check.due("two units", x.set(0, 2), 2);
    }

    private static void promise07RemoveInHarbour() {
        BoatSets x = Check.withSet(34);
        Check.addSingles(x, 0, 0, 17);
        Check.due("bits for 32", x.boat(0, 0, 0), 1);
        Check.due("no coins for a row", x.remove(0, 32), 16);
        Check.due("it keeps its kind", x.boat(0, 0, 0), 1);
        x.pay(0, 28);
        Check.due("15 numbers, 30 coins", x.remove(0, 30), 15);
        Check.due("a row", x.boat(0, 0, 0), 0);
        Check.due("no coins", x.set(0, 3), 0);
        Check.due("the last of a boat costs nothing", x.add(0, 600), 0);
        Check.due("gone", x.remove(0, 600), 0);
        BoatSets y = Check.withSet(24);
        y.addRange(0, 0, 40);
        for (int run = 0; run < 7; run++) {
            y.remove(0, 2 + 4 * run);
        }
        Check.due("eight runs, none paid but the first", y.set(0, 5), 3);
        Check.due("no coins for bits", y.remove(0, 33), -3);
        Check.due("at the end", y.remove(0, 40), 33);
        y.pay(0, 11);
        Check.due("with 32 coins", y.remove(0, 33), 32);
        Check.due("bits", y.boat(0, 0, 0), 1);
        Check.due("nine runs", y.boat(0, 0, 2), 9);
    }

    private static void promise08AddRangeChecks() {
        BoatSets x = Check.withSet(9999);
        Check.due("unknown set", x.addRange(1, 0, 0), -1);
        Check.due("UNKNOWN ahead of BAD_VALUE", x.addRange(-1, 5, 4), -1);
        Check.due("from -1", x.addRange(0, -1, 4), -2);
        Check.due("to 2048", x.addRange(0, 5, 2048), -2);
        Check.due("to below from", x.addRange(0, 5, 4), -2);
        Check.due("both too large", x.addRange(0, 3000, 4000), -2);
        Check.due("extremes", x.addRange(0, Integer.MIN_VALUE, Integer.MAX_VALUE), -2);
        Check.due("no acts", x.count(9), 1);
        Check.due("one number", x.addRange(0, 5, 5), 1);
        Check.due("all there", x.addRange(0, 5, 5), -5);
        Check.due("some there", x.addRange(0, 4, 7), 3);
        Check.due("one act each", x.count(9), 3);
        Check.due("all numbers", x.addRange(0, 0, 2047), 2044);
        Check.due("eight boats", x.set(0, 1), 8);
        Check.due("eight runs", x.set(0, 6), 8);
        Check.due("all there", x.addRange(0, 0, 2047), -5);
        x.undo();
        Check.due("undone", x.set(0, 0), 4);
        Check.due("boats of the bays are gone", x.set(0, 1), 1);
    }

    private static void promise08AddRangeNumberByNumber() {
        // 0 2 4: a row; 1 joins to 0-2 and 4: runs take 6, a row 8; then 3: one run.
        BoatSets x = Check.withSet(20);
        Check.addSingles(x, 0, 0, 3);
        Check.due("two come", x.addRange(0, 0, 4), 2);
        Check.due("paid once: 6", x.set(0, 5), 6);
        BoatSets y = Check.withSet(5);
        Check.addSingles(y, 0, 0, 3);
        Check.due("two come", y.addRange(0, 0, 4), 2);
        Check.due("the first toll is too dear, the second is not", y.set(0, 5), 3);
        Check.due("runs", y.boat(0, 0, 0), 2);
        BoatSets z = Check.withSet(0);
        Check.due("25 into a row", z.addRange(0, 0, 24), -3);
        Check.due("none of them", z.set(0, 0), 0);
        Check.due("FULL is no act", z.count(9), 1);
        Check.due("24 into a row", z.addRange(0, 0, 23), 24);
        Check.due("a range over two bays, FULL in the first", z.addRange(0, 200, 300), -3);
        Check.due("full in the second", z.addRange(0, 250, 285), -3);
        Check.due("none in the first", z.addRange(0, 24, 400), -3);
        Check.due("all as before", z.set(0, 0), 24);
        Check.due("tolls in each bay", Check.withSet(3).addRange(0, 254, 257), 4);
        BoatSets w = Check.withSet(3);
        w.addRange(0, 254, 257);
        Check.due("the lower bay pays first", w.boat(0, 0, 0), 2);
        Check.due("the upper one can't", w.boat(0, 1, 0), 0);
        BoatSets sea = Check.withSet(9999);
        sea.sail(0);
        Check.due("25 at sea", sea.addRange(0, 0, 24), -3);
        Check.due("24 each at sea", sea.addRange(0, 232, 279), 48);
        Check.due("passed over when there", sea.addRange(0, 232, 255), -5);
        Check.due("no tolls at sea", sea.set(0, 5), 0);
    }

    private static void promise09RemoveRange() {
        BoatSets x = Check.withSet(9999);
        Check.due("unknown set", x.removeRange(1, 0, 0), -1);
        Check.due("UNKNOWN ahead of BAD_VALUE", x.removeRange(1, 5, 4), -1);
        Check.due("from -1", x.removeRange(0, -1, 4), -2);
        Check.due("to 2048", x.removeRange(0, 5, 2048), -2);
        Check.due("to below from", x.removeRange(0, 5, 4), -2);
        Check.due("none there", x.removeRange(0, 0, 2047), -5);
        Check.due("no acts", x.count(9), 1);
        x.addRange(0, 250, 260);
        Check.due("over two bays", x.removeRange(0, 255, 257), 3);
        Check.due("one act", x.count(9), 3);
        Check.due("eight are left", x.set(0, 0), 8);
        Check.due("some there", x.removeRange(0, 257, 300), 3);
        Check.due("the second boat is gone", x.set(0, 1), 1);
        Check.due("the rest", x.removeRange(0, 0, 2047), 5);
        x.undo();
        Check.due("undone", x.set(0, 0), 5);
        // 0-4: 3 coins for runs; 1 goes: 0 2 3 4, runs of 6; 2 goes: 0 3 4; a row takes 6 too.
        BoatSets y = Check.withSet(9);
        y.addRange(0, 0, 4);
        Check.due("two go", y.removeRange(0, 1, 2), 2);
        Check.due("a row, for 6", y.boat(0, 0, 0), 0);
        Check.due("paid number by number", y.set(0, 5), 9);
    }

    private static void promise09RemoveRangeFull() {
        BoatSets x = eightRuns();
        Check.due("1 cannot go ahead of 2 and 3", x.removeRange(0, 1, 3), -3);
        Check.due("all of them, or none", x.set(0, 0), 32);
        Check.due("0 goes first", x.removeRange(0, 0, 3), 4);
        Check.due("split", x.removeRange(0, 9, 10), 2);
        Check.due("eight runs again", x.boat(0, 0, 2), 8);
        Check.due("17 would split, over several runs", x.removeRange(0, 17, 30), -3);
        Check.due("none went", x.has(0, 24), 1);
        Check.due("FULL is no act", x.count(9), 4);
        Check.due("what is missing is passed over", x.removeRange(0, 12, 15), -5);
    }

    private static void promise10CombineChecks() {
        BoatSets x = Check.withSet(10);
        x.newSet(10);
        Check.due("unknown into", x.combine(0, 2, 0, 1), -1);
        Check.due("unknown set", x.combine(0, 0, 2, 1), -1);
        Check.due("unknown other", x.combine(0, 0, 1, 2), -1);
        Check.due("negative sets", x.combine(0, -1, -1, -1), -1);
        Check.due("UNKNOWN ahead of BAD_VALUE", x.combine(4, 0, 1, 2), -1);
        Check.due("how 4", x.combine(4, 0, 1, 1), -2);
        Check.due("how -1", x.combine(-1, 0, 1, 1), -2);
        x.sail(0);
        Check.due("BAD_VALUE ahead of NOT_POSSIBLE", x.combine(4, 0, 1, 1), -2);
        Check.due("UNKNOWN ahead of NOT_POSSIBLE", x.combine(0, 0, 1, 5), -1);
        Check.due("at sea", x.combine(0, 0, 1, 1), -4);
        Check.due("no acts", x.count(9), 3);
        Check.due("the others may be at sea", x.combine(0, 1, 0, 0), 0);
        Check.due("an act, though nothing changes", x.count(9), 4);
    }

    private static void promise10CombineNumbers() {
        int[] due = {60, 20, 20, 40};
        int[] least = {10, 30, 10, 10};
        int[] greatest = {69, 49, 29, 69};
        for (int how = 0; how < 4; how++) {
            BoatSets x = Check.withSet(100);
            x.newSet(100);
            x.newSet(100);
            x.addRange(0, 10, 49);
            x.addRange(1, 30, 69);
            x.addRange(2, 1000, 1001);
            Check.due("into a third, how " + how, x.combine(how, 2, 0, 1), due[how]);
            Check.due("its numbers", x.set(2, 0), due[how]);
            Check.due("the least", x.set(2, 7), least[how]);
            Check.due("the greatest", x.set(2, 8), greatest[how]);
            Check.due("what it had is gone", x.boat(2, 3, 0), -5);
            Check.due("the sources stay", x.set(0, 0) + x.set(1, 0), 80);
            Check.due("into the first, how " + how, x.combine(how, 0, 0, 1), due[how]);
            x.undo();
            Check.due("into the second, how " + how, x.combine(how, 1, 0, 1), due[how]);
            Check.due("the greatest", x.set(1, 8), greatest[how]);
            x.undo();
            Check.due("undone", x.set(1, 0), 40);
        }
        BoatSets x = Check.withSet(5);
        x.addRange(0, 2040, 2047);
        Check.due("with itself", x.combine(3, 0, 0, 0), 0);
        Check.due("no boats", x.set(0, 1), 0);
    }

    private static void promise10CombineKeepsTheRest() {
        BoatSets x = Check.withSet(50);
        x.newSet(70);
        x.addRange(1, 0, 9);
        x.add(0, 5);
        x.sail(0);
        x.tollToDock(0);
        Check.due("into set 1", x.combine(0, 1, 0, 0), 1);
        Check.due("its own purse", x.set(1, 3), 67);
        Check.due("its own tolls", x.set(1, 5), 3);
        Check.due("in the harbour", x.set(1, 4), 0);
        Check.due("set 0 at sea", x.set(0, 4), 1);
    }

    private static void promise10CombineBoats() {
        BoatSets x = Check.withSet(0);
        x.newSet(0);
        x.newSet(9999);
        Check.addSingles(x, 0, 0, 24);
        x.addRange(1, 1, 20);
        x.addRange(1, 300, 310);
        Check.due("rows without coins", x.boat(0, 0, 0) + x.boat(1, 0, 0) + x.boat(1, 1, 0), 0);
        Check.due("either", x.combine(0, 0, 0, 1), 45);
        Check.due("15 runs, many numbers: bits", x.boat(0, 0, 0), 1);
        Check.due("runs", x.boat(0, 1, 0), 2);
        Check.due("without a toll", x.set(0, 5), 0);
        Check.due("none", x.combine(1, 0, 2, 2), 0);
        Check.due("empty: no units", x.set(0, 2), 0);
        Check.due("a new boat after it is a row", x.add(0, 0), 0);
        Check.addSingles(x, 2, 0, 16);
        x.combine(0, 0, 2, 2);
        Check.due("a row where bits take as much", x.boat(0, 0, 0), 0);
        Check.due("the purse stays", x.set(2, 3), 9999);
        Check.addSingles(x, 2, 512, 24);
        x.sail(2);
        x.combine(0, 0, 2, 2);
        Check.due("the set itself was at sea, into was not", x.boat(0, 2, 0), 1);
    }
}
