/** The sentences of SETS AND BAYS and of BOATS, each with a test of its own. */
public final class SentencesOfBoatsTest {
    public static void main(String[] args) {
        sixSetsAtMost();
        numbersFrom0To2047();
        purseOf0To9999();
        inTheHarbourAtFirst();
        numbersOfABay();
        oneBoatForABay();
        runEndsWhereANumberIsMissing();
        runEndsWithTheBay();
        rowHolds24();
        rowTakes2ForEach();
        bitsHoldAnyNumbers();
        bitsTake32();
        runsHoldEightRuns();
        runsHoldAnyNumbers();
        runsTake3ForEach();
        bestKindTakesTheFewest();
        bestKindHoldsTheNumbers();
        lowestOfSeveralBestKinds();
        tollIsTheUnitsThen();
        tollIsPaidByItsSet();
        Check.finish();
    }

    private static void sixSetsAtMost() {
        Check.sentence("There are at most 6 sets, numbered from 0.");
        BoatSets x = new BoatSets();
        Check.due("no set 0 yet", x.set(0, 0), -1);
        for (int set = 0; set < 6; set++) {
            Check.due("newSet", x.newSet(0), set);
            Check.due("it is there", x.set(set, 0), 0);
            Check.due("the one behind it is not", x.set(set + 1, 0), -1);
        }
        Check.due("a seventh", x.newSet(0), -3);
        Check.due("six are there", x.count(0), 6);
        Check.due("no set 6", x.set(6, 0), -1);
        Check.due("no set -1", x.set(-1, 0), -1);
    }

    private static void numbersFrom0To2047() {
        Check.sentence("A set has numbers from 0 to 2047");
        BoatSets x = Check.withSet(0);
        Check.due("-1", x.add(0, -1), -2);
        Check.due("2048", x.add(0, 2048), -2);
        Check.due("2047 to 2048", x.addRange(0, 2047, 2048), -2);
        Check.due("-1 to 0", x.addRange(0, -1, 0), -2);
        Check.due("none yet", x.set(0, 0), 0);
        Check.due("0", x.add(0, 0), 0);
        Check.due("2047", x.add(0, 2047), 0);
        Check.due("the least", x.set(0, 7), 0);
        Check.due("the greatest", x.set(0, 8), 2047);
        Check.due("it can have 2047", x.has(0, 2047), 1);
        Check.due("it cannot have 2048", x.has(0, 2048), -2);
        Check.due("nor -1", x.has(0, -1), -2);
        BoatSets all = Check.withSet(9999);
        Check.due("all of them", all.addRange(0, 0, 2047), 2048);
        Check.due("so many", all.set(0, 0), 2048);
        Check.due("no gap is left", all.gap(0, 1), -5);
    }

    private static void purseOf0To9999() {
        Check.sentence("a purse of coins (0 to 9999)");
        BoatSets x = Check.withSet(0);
        x.newSet(9999);
        x.newSet(3);
        Check.due("0", x.set(0, 3), 0);
        Check.due("9999", x.set(1, 3), 9999);
        Check.due("not one more", x.pay(1, 1), -3);
        Check.due("9999 still", x.set(1, 3), 9999);
        Check.due("the last coins go", x.addRange(2, 0, 1), 2);
        Check.due("0 are left", x.set(2, 3), 0);
        Check.due("no toll from an empty purse", x.addRange(2, 300, 301), 2);
        Check.due("never below 0", x.set(2, 3), 0);
        Check.due("filled to the brim", x.pay(2, 9999), 9999);
    }

    private static void inTheHarbourAtFirst() {
        Check.sentence("and is in the harbour (at first) or at sea.");
        BoatSets x = Check.withSet(9);
        Check.due("in the harbour", x.set(0, 4), 0);
        Check.due("none at sea", x.count(1), 0);
        x.addRange(0, 0, 1);
        Check.due("its boats change", x.boat(0, 0, 0), 2);
        x.sail(0);
        Check.due("at sea", x.set(0, 4), 1);
        x.newSet(9);
        Check.due("each one at first", x.set(1, 4), 0);
        x.dock(0);
        Check.due("in the harbour again", x.set(0, 4), 0);
        BoatSets y = new BoatSets();
        y.keep();
        y.newSet(9);
        y.sail(0);
        y.restore();
        y.newSet(9);
        Check.due("in place of one that was at sea", y.set(0, 4), 0);
    }

    private static void numbersOfABay() {
        Check.sentence("The numbers from 256 * b to 256 * b + 255 are those of the bay b (0 to 7).");
        for (int bay = 0; bay < 8; bay++) {
            BoatSets x = Check.withSet(0);
            x.add(0, 256 * bay);
            Check.due("the first of bay " + bay, x.boat(0, bay, 1), 1);
            x.add(0, 256 * bay + 255);
            Check.due("and the last", x.boat(0, bay, 1), 2);
            Check.due("one boat", x.set(0, 1), 1);
            if (bay > 0) {
                x.add(0, 256 * bay - 1);
                Check.due("one less is of the bay before", x.boat(0, bay - 1, 1), 1);
            }
            if (bay < 7) {
                x.add(0, 256 * bay + 256);
                Check.due("one more is of the next bay", x.boat(0, bay + 1, 1), 1);
            }
            Check.due("two in bay " + bay, x.boat(0, bay, 1), 2);
        }
        BoatSets x = Check.withSet(0);
        x.add(0, 0);
        x.add(0, 2047);
        Check.due("no bay -1", x.boat(0, -1, 0), -2);
        Check.due("no bay 8", x.boat(0, 8, 0), -2);
    }

    private static void oneBoatForABay() {
        Check.sentence("For each bay of which a set has any numbers, it has one boat with these; otherwise it has none.");
        BoatSets x = Check.withSet(9999);
        x.newSet(0);
        for (int bay = 0; bay < 8; bay++) {
            Check.due("no boat in bay " + bay, x.boat(0, bay, 0), -5);
        }
        Check.due("none", x.set(0, 1), 0);
        x.add(0, 768);
        Check.due("one number, one boat", x.set(0, 1), 1);
        Check.due("with it", x.boat(0, 3, 1), 1);
        Check.due("none before", x.boat(0, 2, 0), -5);
        Check.due("none behind", x.boat(0, 4, 0), -5);
        x.add(0, 1023);
        Check.due("far apart, one boat still", x.set(0, 1), 1);
        x.addRange(0, 768, 1023);
        Check.due("with all 256", x.boat(0, 3, 1), 256);
        Check.due("one boat for all of the bay", x.set(0, 1), 1);
        x.addRange(0, 767, 1024);
        Check.due("one for each of three bays", x.set(0, 1), 3);
        Check.due("the other set has none", x.set(1, 1), 0);
        x.removeRange(0, 768, 1023);
        Check.due("no number, no boat", x.boat(0, 3, 0), -5);
        Check.due("two are left", x.set(0, 1), 2);
        for (int bay = 0; bay < 8; bay++) {
            x.add(0, 256 * bay + 7 * bay);
        }
        Check.due("eight at most", x.set(0, 1), 8);
    }

    private static void runEndsWhereANumberIsMissing() {
        Check.sentence("A run is as many numbers of a boat in a row as there are, without one between them that is missing");
        BoatSets x = Check.withSet(0);
        x.add(0, 10);
        Check.due("one number", x.boat(0, 0, 2), 1);
        x.add(0, 11);
        Check.due("one above it", x.boat(0, 0, 2), 1);
        x.add(0, 9);
        Check.due("one below it", x.boat(0, 0, 2), 1);
        x.add(0, 13);
        Check.due("12 is missing", x.boat(0, 0, 2), 2);
        x.add(0, 12);
        Check.due("12 joins them", x.boat(0, 0, 2), 1);
        x.remove(0, 11);
        Check.due("11 is missing", x.boat(0, 0, 2), 2);
        x.remove(0, 13);
        Check.due("the upper end goes", x.boat(0, 0, 2), 2);
        x.remove(0, 12);
        Check.due("a whole run goes", x.boat(0, 0, 2), 1);
        x.add(0, 64);
        x.add(0, 63);
        Check.due("63 and 64 are a row", x.boat(0, 0, 2), 2);
        x.add(0, 0);
        x.add(0, 255);
        Check.due("the ends of the bay", x.boat(0, 0, 2), 4);
        x.add(0, 1);
        x.add(0, 254);
        Check.due("longer ones", x.boat(0, 0, 2), 4);
        Check.due("of the set", x.set(0, 6), 4);
    }

    private static void runEndsWithTheBay() {
        Check.sentence("(so it ends with the bay)");
        for (int bay = 1; bay < 8; bay++) {
            int start = 256 * bay;
            BoatSets x = Check.withSet(0);
            x.add(0, start);
            x.add(0, start - 1);
            Check.due("one before " + start, x.boat(0, bay - 1, 2), 1);
            Check.due("one from " + start, x.boat(0, bay, 2), 1);
            x.add(0, start + 1);
            x.add(0, start - 2);
            Check.due("two runs of two", x.set(0, 6), 2);
            x.remove(0, start);
            Check.due("each goes by itself", x.set(0, 6), 2);
            x.remove(0, start + 1);
            Check.due("one is left", x.set(0, 6), 1);
        }
        BoatSets all = Check.withSet(9999);
        all.addRange(0, 0, 2047);
        Check.due("one in each bay", all.set(0, 6), 8);
    }

    private static void rowHolds24() {
        Check.sentence("The kind 0, a row, holds at most 24 numbers");
        BoatSets x = Check.withSet(0);
        x.sail(0);
        Check.addSingles(x, 0, 0, 23);
        Check.due("the 24th", x.add(0, 100), 0);
        Check.due("24 are there", x.boat(0, 0, 1), 24);
        Check.due("the 25th", x.add(0, 200), -3);
        x.remove(0, 0);
        Check.due("there is room again", x.add(0, 200), 0);
        BoatSets y = Check.withSet(0);
        Check.due("24 in a run", y.addRange(0, 256, 279), 24);
        Check.due("a row", y.boat(0, 1, 0), 0);
        Check.due("25 in a run", y.add(0, 280), -3);
    }

    private static void rowTakes2ForEach() {
        Check.sentence("and takes 2 units for each.");
        BoatSets x = Check.withSet(0);
        for (int size = 1; size <= 24; size++) {
            x.add(0, 300 + size);
            Check.due("a row", x.boat(0, 1, 0), 0);
            Check.due("of " + size, x.boat(0, 1, 3), 2 * size);
        }
        Check.due("of the set", x.set(0, 2), 48);
    }

    private static void bitsHoldAnyNumbers() {
        Check.sentence("The kind 1, bits, holds any numbers");
        BoatSets x = Made.atSea(0, Made.singles(0, 17));
        Check.due("bits", x.boat(0, 0, 0), 1);
        for (int number = 34; number < 256; number += 2) {
            Check.due("add " + number, x.add(0, number), 1);
        }
        Check.due("128 runs", x.boat(0, 0, 2), 128);
        Check.due("the others too", x.addRange(0, 0, 255), 128);
        Check.due("bits with 256", x.boat(0, 0, 0), 1);
        Check.due("all but one go", x.removeRange(0, 0, 254), 255);
        Check.due("bits with one", x.boat(0, 0, 0), 1);
    }

    private static void bitsTake32() {
        Check.sentence("and takes 32 units.");
        BoatSets x = Made.atSea(0, Made.singles(0, 17));
        Check.due("of 17", x.boat(0, 0, 3), 32);
        x.addRange(0, 0, 255);
        Check.due("of 256", x.boat(0, 0, 3), 32);
        x.removeRange(0, 0, 254);
        Check.due("of one", x.boat(0, 0, 3), 32);
        Check.due("of the set", x.set(0, 2), 32);
    }

    private static void runsHoldEightRuns() {
        Check.sentence("The kind 2, runs, holds any numbers in at most 8 runs");
        BoatSets x = Made.atSea(0, Made.runs(0, 7, 4, 4));
        Check.due("runs", x.boat(0, 0, 0), 2);
        Check.due("an eighth", x.add(0, 200), 2);
        Check.due("eight are there", x.boat(0, 0, 2), 8);
        Check.due("a ninth", x.add(0, 100), -3);
        x.remove(0, 200);
        Check.due("there is room again", x.add(0, 100), 2);
    }

    private static void runsHoldAnyNumbers() {
        Check.sentence("The kind 2, runs, holds any numbers in at most 8 runs");
        BoatSets x = Made.atSea(0, Made.eightRuns());
        Check.due("60 to 255 in the last run", x.addRange(0, 60, 255), 196);
        Check.due("runs", x.boat(0, 0, 0), 2);
        for (int run = 0; run < 7; run++) {
            Check.due("the rest", x.addRange(0, 8 * run + 4, 8 * run + 7), 4);
        }
        Check.due("runs with 256", x.boat(0, 0, 0), 2);
        Check.due("256", x.boat(0, 0, 1), 256);
        Check.due("all but one go", x.removeRange(0, 0, 254), 255);
        Check.due("runs with one", x.boat(0, 0, 0), 2);
    }

    private static void runsTake3ForEach() {
        Check.sentence("and takes 3 units for each run.");
        for (int runs = 1; runs <= 8; runs++) {
            BoatSets x = Made.withBest(0, Made.runs(512, runs, 5, 3));
            Check.due("runs", x.boat(0, 2, 0), 2);
            Check.due("of " + runs, x.boat(0, 2, 3), 3 * runs);
            Check.due("of the set", x.set(0, 2), 3 * runs);
        }
        Check.due("one run of 256", Made.withBest(0, 256, 511).boat(0, 1, 3), 3);
    }

    private static void best(String numbers, int kind, int units, int... ranges) {
        BoatSets x = Made.withBest(0, ranges);
        Check.due("best kind of " + numbers, x.boat(0, 0, 4), kind);
        Check.due("kind of " + numbers, x.boat(0, 0, 0), kind);
        Check.due("units of " + numbers, x.set(0, 9), units);
    }

    private static void bestKindTakesTheFewest() {
        Check.sentence("The best kind of some numbers is the one that holds them and takes the fewest units");
        best("one number: 2, 32, 3", 0, 2, 7, 7);
        best("two in a run: 4, 32, 3", 2, 3, 7, 8);
        best("two in two runs: 4, 32, 6", 0, 4, 7, 7, 9, 9);
        best("three in a run: 6, 32, 3", 2, 3, 7, 9);
        best("15 singles: 30, 32", 0, 30, Made.singles(0, 15));
        best("17 singles: 34, 32", 1, 32, Made.singles(0, 17));
        best("8 runs of 2: 32, 32, 24", 2, 24, Made.runs(0, 8, 2, 1));
        best("8 runs of 3: 48, 32, 24", 2, 24, Made.runs(0, 8, 3, 1));
        best("24 singles: 48, 32", 1, 32, Made.singles(0, 24));
        best("8 runs of 31: 32, 24", 2, 24, Made.runs(0, 8, 31, 1));
        best("a whole bay: 32, 3", 2, 3, 0, 255);
        best("every second number: 32", 1, 32, Made.singles(0, 128));
    }

    private static void bestKindHoldsTheNumbers() {
        Check.sentence("The best kind of some numbers is the one that holds them and takes the fewest units");
        best("9 runs of 2, that runs cannot hold", 1, 32, Made.runs(0, 9, 2, 1));
        best("10 runs of 2, that runs cannot hold", 1, 32, Made.runs(0, 10, 2, 1));
        best("9 runs of 20", 1, 32, Made.runs(0, 9, 20, 1));
        best("8 runs of 20, that a row cannot hold", 2, 24, Made.runs(0, 8, 20, 1));
        best("25 singles, that bits alone hold", 1, 32, Made.singles(0, 25));
        best("14 in 9 runs: a row, though runs would take 27", 0, 28,
            0, 1, 3, 4, 6, 7, 9, 10, 12, 13, 15, 15, 17, 17, 19, 19, 21, 21);
    }

    private static void lowestOfSeveralBestKinds() {
        Check.sentence("of several the lowest one.");
        best("3 in 2 runs: 6 as a row or as runs", 0, 6, 0, 1, 3, 3);
        best("6 in 4 runs: 12 as a row or as runs", 0, 12, 0, 1, 3, 4, 6, 6, 8, 8);
        best("12 in 8 runs: 24 as a row or as runs", 0, 24, 0, 1, 3, 4, 6, 7, 9, 10, 12, 12, 14, 14, 16, 16, 18, 18);
        best("16 singles: 32 as a row or as bits", 0, 32, Made.singles(0, 16));
        best("16 in 9 runs: 32 as a row or as bits", 0, 32, 0, 7, 9, 9, 11, 11, 13, 13, 15, 15, 17, 17, 19, 19, 21, 21, 23, 23);
    }

    private static void tollIsTheUnitsThen() {
        Check.sentence("The toll of a boat that becomes one of another kind is as many coins as the units that it takes then.");
        BoatSets runs = Check.withSet(0);
        runs.addRange(0, 0, 1);
        runs.add(0, 10);
        runs.pay(0, 50);
        Check.due("to two runs", runs.add(0, 11), 2);
        Check.due("6", runs.set(0, 5), 6);
        Check.due("44 are left", runs.set(0, 3), 44);
        BoatSets bits = Made.withBest(50, Made.singles(0, 16));
        Check.due("to bits", bits.add(0, 100), 1);
        Check.due("32", bits.set(0, 5), 32);
        Check.due("18 are left", bits.set(0, 3), 18);
        BoatSets row = Made.withBest(50, Made.singles(0, 17));
        row.remove(0, 0);
        Check.due("to a row of 16", row.boat(0, 0, 0), 0);
        Check.due("32 for it", row.set(0, 5), 32);
        BoatSets small = Made.withBest(50, 0, 2);
        small.remove(0, 1);
        Check.due("to a row of 2", small.boat(0, 0, 0), 0);
        Check.due("4", small.set(0, 5), 4);
        Check.due("46 are left", small.set(0, 3), 46);
        BoatSets dock = Made.rowsAtSea(50, 0, 4, 10, 14, 20, 24);
        Check.due("to three runs", dock.dock(0), 9);
        Check.due("41 are left", dock.set(0, 3), 41);
    }

    private static void tollIsPaidByItsSet() {
        Check.sentence("It is paid from the purse of its set.");
        BoatSets x = Check.withSet(10);
        x.newSet(20);
        x.newSet(0);
        x.addRange(1, 0, 1);
        Check.due("set 1 pays", x.set(1, 3), 17);
        Check.due("it has paid", x.set(1, 5), 3);
        Check.due("set 0 does not", x.set(0, 3), 10);
        Check.due("it has not paid", x.set(0, 5), 0);
        x.addRange(2, 0, 1);
        Check.due("nobody pays for set 2", x.boat(2, 0, 0), 0);
        Check.due("set 0 has its coins", x.set(0, 3), 10);
        Check.due("set 1 too", x.set(1, 3), 17);
        x.dock(2);
        Check.due("nor as it docks", x.boat(2, 0, 0), 0);
    }
}
