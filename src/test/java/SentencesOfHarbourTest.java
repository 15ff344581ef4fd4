/** The sentences of AT SEA AND IN THE HARBOUR and of DOCKING, each with a test of its own. */
public final class SentencesOfHarbourTest {
    public static void main(String[] args) {
        newBoatIsARow();
        emptyBoatIsGone();
        noOtherKindAtSea();
        rowAtSeaCannotHold();
        runsAtSeaCannotHold();
        bitsAtSeaHoldAll();
        becomesTheBestKind();
        onlyItsBoatBecomesAnother();
        alsoOneThatTakesAsMuch();
        purseHasTheToll();
        otherwiseKeepsItsKind();
        rowCouldNotHold();
        runsCouldNotHold();
        numberByNumber();
        eachWithItsToll();
        lowestFirst();
        passedOver();
        dockedIsInTheHarbour();
        savesTheDifference();
        savesPerhapsNothing();
        mostFirst();
        lowestBayFirst();
        purseHasTheTollThen();
        dearOnesArePassedOver();
        Check.finish();
    }

    private static void newBoatIsARow() {
        Check.sentence("A new boat is a row.");
        BoatSets x = Check.withSet(9999);
        Check.due("in the harbour", x.add(0, 0), 0);
        x.sail(0);
        Check.due("at sea", x.add(0, 300), 0);
        Check.due("from a range", x.addRange(0, 512, 520), 9);
        Check.due("a row of 9", x.boat(0, 2, 0), 0);
        BoatSets runs = Made.atSea(9999, 0, 9);
        runs.removeRange(0, 0, 9);
        Check.due("where runs were", runs.add(0, 5), 0);
        Check.due("2 units", runs.boat(0, 0, 3), 2);
        BoatSets bits = Made.atSea(9999, Made.singles(0, 17));
        bits.removeRange(0, 0, 255);
        Check.due("where bits were", bits.add(0, 5), 0);
        Check.due("it holds 24", bits.addRange(0, 0, 23), 23);
        Check.due("and no more", bits.add(0, 24), -3);
        BoatSets poor = Made.withBest(0, 0, 9);
        poor.removeRange(0, 0, 9);
        Check.due("in the harbour, where runs were", poor.add(0, 5), 0);
    }

    private static void isGone(String what, BoatSets x) {
        for (int told = 0; told <= 5; told++) {
            Check.due(what + ", told " + told, x.boat(0, 0, told), -5);
        }
        Check.due(what + ": boats", x.set(0, 1), 0);
        Check.due(what + ": units", x.set(0, 2), 0);
        Check.due(what + ": runs", x.set(0, 6), 0);
    }

    private static void emptyBoatIsGone() {
        Check.sentence("A boat that has no number any more is gone.");
        BoatSets row = Check.withSet(9);
        row.add(0, 5);
        Check.due("the last of a row", row.remove(0, 5), 0);
        isGone("a row in the harbour", row);
        Check.due("for nothing", row.set(0, 3), 9);
        Check.due("no row", row.count(2), 0);
        BoatSets runs = Made.atSea(0, 0, 9);
        runs.removeRange(0, 0, 9);
        isGone("runs at sea", runs);
        Check.due("set 1 has the only runs", runs.count(4), 1);
        BoatSets bits = Made.atSea(0, Made.singles(0, 17));
        bits.removeRange(0, 0, 255);
        isGone("bits at sea", bits);
        Check.due("set 1 has the only bits", bits.count(3), 1);
        BoatSets poor = Made.withBest(0, Made.singles(0, 17));
        poor.removeRange(0, 0, 255);
        isGone("bits in the harbour", poor);
        BoatSets combined = Made.withBest(0, 0, 9);
        combined.combine(3, 0, 0, 1);
        isGone("combined", combined);
        BoatSets two = Made.atSea(0, 250, 260);
        two.removeRange(0, 0, 255);
        isGoneBesideAnother(two);
    }

    private static void isGoneBesideAnother(BoatSets two) {
        Check.due("bay 0 is gone", two.boat(0, 0, 0), -5);
        Check.due("bay 1 is not", two.boat(0, 1, 0), 2);
        Check.due("one boat", two.set(0, 1), 1);
    }

    private static void noOtherKindAtSea() {
        Check.sentence("At sea no boat becomes one of another kind.");
        BoatSets row = Check.withSet(9999);
        row.sail(0);
        for (int number = 0; number < 24; number++) {
            Check.due("a row", row.add(0, number), 0);
        }
        Check.due("runs would be best", row.boat(0, 0, 4), 2);
        Check.due("not even for a number that it cannot hold", row.add(0, 24), -3);
        row.remove(0, 23);
        Check.due("a row still", row.boat(0, 0, 0), 0);
        BoatSets eight = Made.atSea(9999, Made.eightRuns());
        Check.due("nor for a ninth run", eight.add(0, 100), -3);
        Check.due("nor for a run that is split", eight.remove(0, 1), -3);
        Check.due("runs still", eight.boat(0, 0, 0), 2);
        BoatSets runs = Made.atSea(9999, 0, 2);
        runs.remove(0, 1);
        Check.due("runs", runs.boat(0, 0, 0), 2);
        Check.due("a row would be best", runs.boat(0, 0, 4), 0);
        Check.due("runs as one comes", runs.add(0, 100), 2);
        BoatSets bits = Made.atSea(9999, Made.singles(0, 17));
        bits.removeRange(0, 2, 255);
        Check.due("bits", bits.boat(0, 0, 0), 1);
        Check.due("bits as one comes", bits.add(0, 1), 1);
        Check.due("runs would be best", bits.boat(0, 0, 4), 2);
        Check.due("no toll of a row", row.set(0, 5), 0);
        Check.due("no toll of runs", runs.set(0, 5), 0);
        Check.due("no toll of bits", bits.set(0, 5), 0);
        Check.due("all coins are there", bits.set(0, 3), 9999);
    }

    private static void rowAtSeaCannotHold() {
        Check.sentence("A number cannot come into, or go out of, a boat that could not hold its numbers then.");
        BoatSets x = Made.rowsAtSea(9999, 0, 23);
        Check.due("the 25th beside the others", x.add(0, 24), -3);
        Check.due("the 25th far from them", x.add(0, 255), -3);
        Check.due("24 still", x.boat(0, 0, 1), 24);
        Check.due("another bay has room", x.add(0, 256), 0);
        Check.due("each may go", x.remove(0, 10), 23);
        Check.due("now there is room", x.add(0, 255), 0);
    }

    private static void runsAtSeaCannotHold() {
        Check.sentence("A number cannot come into, or go out of, a boat that could not hold its numbers then.");
        BoatSets x = Made.atSea(9999, Made.eightRuns());
        Check.due("a ninth run above", x.add(0, 100), -3);
        Check.due("a ninth run between", x.add(0, 5), -3);
        Check.due("a run that is split", x.remove(0, 1), -3);
        Check.due("32 still", x.boat(0, 0, 1), 32);
        Check.due("a run that grows above", x.add(0, 4), 2);
        Check.due("a run that grows below", x.add(0, 15), 2);
        Check.due("the lower end goes", x.remove(0, 0), 33);
        Check.due("the upper end goes", x.remove(0, 4), 32);
        x.addRange(0, 4, 7);
        Check.due("two runs are joined", x.boat(0, 0, 2), 7);
        Check.due("now one may be split", x.remove(0, 6), 35);
        Check.due("eight again", x.boat(0, 0, 2), 8);
        Check.due("no other one", x.remove(0, 25), -3);
    }

    private static void bitsAtSeaHoldAll() {
        Check.sentence("A number cannot come into, or go out of, a boat that could not hold its numbers then.");
        BoatSets x = Made.atSea(0, Made.singles(0, 17));
        Check.due("an 18th run", x.add(0, 100), 1);
        Check.due("a 25th number", x.addRange(0, 101, 120), 20);
        Check.due("a run that is split", x.remove(0, 110), 37);
    }

    private static void becomesTheBestKind() {
        Check.sentence("In the harbour, as a number comes or goes, its boat becomes one of the best kind for its numbers then, "
            + "if that is another kind");
        BoatSets row = Made.withBest(9999, 0, 0);
        Check.due("a row becomes runs", row.add(0, 1), 2);
        BoatSets many = Made.withBest(9999, Made.singles(0, 16));
        Check.due("a row becomes bits", many.add(0, 100), 1);
        BoatSets runs = Made.withBest(9999, 0, 2);
        runs.remove(0, 1);
        Check.due("runs become a row", runs.boat(0, 0, 0), 0);
        BoatSets eight = Made.withBest(9999, Made.eightRuns());
        Check.due("runs become bits as one comes", eight.add(0, 100), 1);
        BoatSets split = Made.withBest(9999, Made.eightRuns());
        Check.due("31 are left", split.remove(0, 1), 31);
        Check.due("runs become bits as one goes", split.boat(0, 0, 0), 1);
        BoatSets bits = Made.withBest(9999, Made.singles(0, 17));
        Check.due("16 are left", bits.remove(0, 0), 16);
        Check.due("bits become a row", bits.boat(0, 0, 0), 0);
        BoatSets nine = Made.withBest(9999, Made.runs(0, 9, 3, 1));
        Check.due("bits become runs as one comes", nine.add(0, 3), 2);
        BoatSets ends = Made.withBest(9999, 0, 80, 100, 100, 102, 102, 104, 104, 106, 106, 108, 108, 110, 110, 112, 112, 114, 114);
        Check.due("88 are left", ends.remove(0, 100), 88);
        Check.due("bits become runs as one goes", ends.boat(0, 0, 0), 2);
        Check.due("no toll for the kind that it has", ends.add(0, 81), 2);
        Check.due("24 in all", ends.set(0, 5), 24);
    }

    private static void onlyItsBoatBecomesAnother() {
        Check.sentence("In the harbour, as a number comes or goes, its boat becomes one of the best kind for its numbers then, "
            + "if that is another kind");
        BoatSets x = Check.withSet(0);
        x.newSet(0);
        x.addRange(0, 0, 4);
        x.addRange(0, 512, 516);
        x.addRange(1, 256, 260);
        x.pay(0, 100);
        x.pay(1, 100);
        Check.due("into bay 1", x.add(0, 300), 0);
        Check.due("out of it", x.remove(0, 300), 0);
        Check.due("bay 0 stays a row", x.boat(0, 0, 0), 0);
        Check.due("bay 2 stays a row", x.boat(0, 2, 0), 0);
        Check.due("the bay of set 1 too", x.boat(1, 1, 0), 0);
        Check.due("for nothing", x.set(0, 3), 100);
        Check.due("its own boat", x.add(0, 5), 2);
        Check.due("bay 2 stays a row still", x.boat(0, 2, 0), 0);
    }

    private static void alsoOneThatTakesAsMuch() {
        Check.sentence("(also one that takes just as many units)");
        BoatSets runs = Made.withBest(6, 0, 3);
        Check.due("three are left", runs.remove(0, 1), 3);
        Check.due("6 as a row, 6 as runs: a row", runs.boat(0, 0, 0), 0);
        Check.due("for 6", runs.set(0, 3), 0);
        BoatSets comes = Made.withBest(6, 0, 1);
        Check.due("6 as a row, 6 as runs, as one comes", comes.add(0, 3), 0);
        BoatSets bits = Made.withBest(32, Made.singles(0, 17));
        Check.due("16 are left", bits.remove(0, 0), 16);
        Check.due("32 as a row, 32 as bits: a row", bits.boat(0, 0, 0), 0);
        Check.due("for 32", bits.set(0, 3), 0);
        Check.due("as many units as before", bits.set(0, 2), 32);
    }

    private static void purseHasTheToll() {
        Check.sentence("and the purse has the toll for it");
        BoatSets just = Made.withBest(3, 0, 0);
        Check.due("3 coins for runs", just.add(0, 1), 2);
        Check.due("none is left", just.set(0, 3), 0);
        BoatSets less = Made.withBest(2, 0, 0);
        Check.due("2 coins", less.add(0, 1), 0);
        Check.due("both are left", less.set(0, 3), 2);
        Check.due("32 coins for bits", Made.withBest(32, Made.singles(0, 16)).add(0, 100), 1);
        Check.due("31 coins", Made.withBest(31, Made.singles(0, 16)).add(0, 100), 0);
        BoatSets row = Made.withBest(4, 0, 2);
        row.remove(0, 1);
        Check.due("4 coins for a row", row.boat(0, 0, 0), 0);
        BoatSets poor = Made.withBest(3, 0, 2);
        poor.remove(0, 1);
        Check.due("3 coins", poor.boat(0, 0, 0), 2);
        Check.due("nothing is paid", poor.set(0, 5), 0);
    }

    private static void otherwiseKeepsItsKind() {
        Check.sentence("otherwise it keeps its kind");
        BoatSets row = Check.withSet(2);
        for (int number = 0; number < 24; number++) {
            Check.due("a row of " + (number + 1), row.add(0, number), 0);
        }
        BoatSets runs = Made.withBest(0, 0, 30);
        runs.remove(0, 1);
        Check.due("a run more", runs.add(0, 100), 2);
        runs.removeRange(0, 2, 255);
        Check.due("runs of one number", runs.boat(0, 0, 0), 2);
        BoatSets bits = Made.withBest(0, Made.singles(0, 17));
        bits.removeRange(0, 2, 255);
        Check.due("bits of one number", bits.boat(0, 0, 0), 1);
        Check.due("and of two", bits.add(0, 1), 1);
        BoatSets best = Made.withBest(100, 0, 9);
        Check.due("the best kind already", best.add(0, 10), 2);
        Check.due("for nothing", best.set(0, 3), 100);
    }

    private static void rowCouldNotHold() {
        Check.sentence("if it could not hold its numbers so, the number cannot come or go.");
        BoatSets x = Check.withSet(2);
        x.addRange(0, 0, 23);
        Check.due("2 coins for runs of 25", x.add(0, 24), -3);
        Check.due("24 still", x.boat(0, 0, 1), 24);
        x.pay(0, 1);
        Check.due("3 coins", x.add(0, 24), 2);
        BoatSets y = Check.withSet(31);
        Check.addSingles(y, 0, 0, 24);
        Check.due("a row of 24", y.boat(0, 0, 1), 24);
        Check.due("31 coins for bits of 25", y.add(0, 100), -3);
        Check.due("31 still", y.set(0, 3), 31);
        y.pay(0, 1);
        Check.due("32 coins", y.add(0, 100), 1);
    }

    private static void runsCouldNotHold() {
        Check.sentence("if it could not hold its numbers so, the number cannot come or go.");
        BoatSets x = Made.withBest(31, Made.eightRuns());
        Check.due("31 coins for bits, as a ninth run comes", x.add(0, 100), -3);
        Check.due("31 coins for bits, as a run is split", x.remove(0, 1), -3);
        Check.due("32 numbers still", x.boat(0, 0, 1), 32);
        Check.due("31 coins still", x.set(0, 3), 31);
        Check.due("a run that grows needs no coin", x.add(0, 4), 2);
        x.pay(0, 1);
        Check.due("32 coins, a run is split", x.remove(0, 1), 32);
        Check.due("bits", x.boat(0, 0, 0), 1);
        BoatSets y = Made.withBest(32, Made.eightRuns());
        Check.due("32 coins, a ninth run", y.add(0, 100), 1);
        // Eight runs, most of them of one number, whose best kind is a row.
        BoatSets few = Made.withBest(0, Made.eightRuns());
        for (int run = 0; run < 7; run++) {
            few.removeRange(0, 8 * run, 8 * run + 2);
        }
        Check.due("runs of 11", few.boat(0, 0, 0) + few.boat(0, 0, 1), 13);
        few.pay(0, 23);
        Check.due("23 coins for a row of 12", few.add(0, 100), -3);
        few.pay(0, 1);
        Check.due("24 coins", few.add(0, 100), 0);
    }

    private static void numberByNumber() {
        Check.sentence("Ranges come and go number by number");
        BoatSets x = Made.atSea(9999, Made.eightRuns());
        Check.due("5 alone would be a ninth run, 5 to 7 would not", x.addRange(0, 5, 7), -3);
        Check.due("1 alone would split a run, 1 to 3 would not", x.removeRange(0, 1, 3), -3);
        BoatSets y = Made.withBest(0, Made.eightRuns());
        Check.due("5 in the harbour", y.addRange(0, 5, 7), -3);
        BoatSets z = Check.withSet(5);
        Check.addSingles(z, 0, 0, 3);
        Check.due("1 and 3 come", z.addRange(0, 0, 4), 2);
        Check.due("1 has 5 coins for a toll of 6, 3 has them for 3", z.set(0, 3), 2);
    }

    private static void eachWithItsToll() {
        Check.sentence("each with its toll");
        BoatSets x = Check.withSet(20);
        Check.addSingles(x, 0, 0, 3);
        Check.due("1 and 3 come", x.addRange(0, 0, 4), 2);
        Check.due("runs of 6 after 1, of 3 after 3: 6", x.set(0, 5), 6);
        BoatSets y = Made.withBest(20, 0, 4);
        Check.due("1 and 2 go", y.removeRange(0, 1, 2), 2);
        Check.due("a row of 6 after 2", y.set(0, 5), 6);
        BoatSets z = Check.withSet(40);
        Check.due("0 to 4", z.addRange(0, 0, 4), 5);
        Check.due("3", z.set(0, 5), 3);
        Check.due("1 to 3 go", z.removeRange(0, 1, 3), 3);
        Check.due("6 for a row of 3, nothing for one of 2", z.set(0, 5), 9);
        Check.due("1 to 3 come", z.addRange(0, 1, 3), 3);
        Check.due("6 for runs, as 2 comes", z.set(0, 5), 15);
    }

    private static void lowestFirst() {
        Check.sentence("the lowest one first");
        BoatSets x = Made.atSea(0, Made.eightRuns());
        Check.due("4, then 5, then 6", x.addRange(0, 4, 6), 3);
        BoatSets y = Made.atSea(0, Made.eightRuns());
        Check.due("5 ahead of 7", y.addRange(0, 5, 7), -3);
        Check.due("0, then 1, then 2", y.removeRange(0, 0, 2), 3);
        BoatSets z = Made.atSea(0, Made.eightRuns());
        Check.due("1 ahead of 3", z.removeRange(0, 1, 3), -3);
        BoatSets coins = Check.withSet(3);
        Check.due("over two bays", coins.addRange(0, 254, 257), 4);
        Check.due("bay 0 is paid first", coins.boat(0, 0, 0), 2);
        Check.due("bay 1 is not", coins.boat(0, 1, 0), 0);
    }

    private static void passedOver() {
        Check.sentence("(numbers that are there already, or are not there, are passed over)");
        BoatSets x = Check.withSet(0);
        x.addRange(0, 254, 255);
        x.addRange(0, 257, 258);
        x.pay(0, 50);
        Check.due("one comes", x.addRange(0, 254, 256), 1);
        Check.due("its boat becomes runs", x.boat(0, 1, 0), 2);
        Check.due("that of 254 and 255 does not", x.boat(0, 0, 0), 0);
        Check.due("3 for it", x.set(0, 3), 47);
        Check.due("one goes", x.removeRange(0, 0, 254), 1);
        Check.due("none goes", x.removeRange(0, 0, 254), -5);
        Check.due("none comes", x.addRange(0, 255, 258), -5);
        BoatSets y = Check.withSet(0);
        y.addRange(0, 0, 4);
        y.add(0, 256);
        y.pay(0, 50);
        Check.due("of 5 to 256 one goes", y.removeRange(0, 5, 256), 1);
        Check.due("the boat of 0 to 4 stays a row", y.boat(0, 0, 0), 0);
        Check.due("no toll", y.set(0, 3), 50);
        BoatSets full = Made.rowsAtSea(0, 232, 255);
        Check.due("a full row, but they are there", full.addRange(0, 232, 255), -5);
        Check.due("and one comes into the next bay", full.addRange(0, 240, 256), 1);
        BoatSets runs = Made.atSea(0, Made.eightRuns());
        Check.due("eight runs, but none of these is there", runs.removeRange(0, 4, 7), -5);
        Check.due("and one goes behind them", runs.removeRange(0, 4, 8), 1);
    }

    private static void dockedIsInTheHarbour() {
        Check.sentence("When a set docks, it is in the harbour.");
        BoatSets x = Made.rowsAtSea(9, 0, 4);
        x.newSet(0);
        x.sail(1);
        x.dock(0);
        Check.due("in the harbour", x.set(0, 4), 0);
        Check.due("the other set is not", x.set(1, 4), 1);
        Check.due("one at sea", x.count(1), 1);
        Check.due("boats change", x.add(0, 300), 0);
        Check.due("for a toll", x.add(0, 301), 2);
        Check.due("it can put to sea", x.sail(0), 2);
        x.dock(1);
        Check.due("without boats too", x.set(1, 4), 0);
    }

    private static void savesTheDifference() {
        Check.sentence("Each of its boats that is not of the best kind saves the units that it takes less those of the best kind");
        // Bay 0: bits of 15 singles, 32 less 30; bay 1: a row of 10 in a run, 20 less 3.
        BoatSets x = Made.atSea(0, Made.singles(0, 17));
        x.removeRange(0, 0, 3);
        x.addRange(0, 256, 265);
        x.pay(0, 32);
        Check.due("17 saved ahead of 2, though it takes less", x.dock(0), 3);
        Check.due("bits", x.boat(0, 0, 0), 1);
        // Bay 0: a row of 4 in a run, 8 less 3; bay 1: a row of 24 in 8 runs, 48 less 24.
        BoatSets y = Made.rowsAtSea(24, 0, 3);
        Made.addAll(y, 0, Made.runs(256, 8, 3, 1));
        Check.due("24 saved ahead of 5, though its toll is more", y.dock(0), 24);
        Check.due("bay 0 stays a row", y.boat(0, 0, 0), 0);
        // Bay 0: a row of 10 in a run, 20 less 3; bay 1: one of 12 in 4 runs, 24 less 12.
        BoatSets z = Made.rowsAtSea(14, 0, 9);
        Made.addAll(z, 0, Made.runs(256, 4, 3, 1));
        Check.due("17 saved ahead of 12", z.dock(0), 3);
        BoatSets best = Made.atSea(99, 0, 9);
        best.add(0, 300);
        Check.due("boats of the best kind pay nothing", best.dock(0), 0);
        Check.due("runs", best.boat(0, 0, 0), 2);
        Check.due("a row", best.boat(0, 1, 0), 0);
    }

    private static void savesPerhapsNothing() {
        Check.sentence("(perhaps 0)");
        BoatSets x = Made.atSea(0, Made.singles(0, 17));
        x.remove(0, 0);
        x.pay(0, 32);
        Check.due("it would pay", x.tollToDock(0), 32);
        Check.due("it pays", x.dock(0), 32);
        Check.due("a row for bits", x.boat(0, 0, 0), 0);
        Check.due("that takes as much", x.set(0, 2), 32);
        BoatSets y = Made.atSea(0, Made.singles(0, 17));
        y.remove(0, 0);
        y.addRange(0, 256, 257);
        y.pay(0, 34);
        Check.due("1 saved comes ahead of 0", y.dock(0), 3);
        Check.due("runs", y.boat(0, 1, 0), 2);
        Check.due("bits still", y.boat(0, 0, 0), 1);
        BoatSets z = Made.atSea(6, 512, 515);
        z.remove(0, 513);
        Check.due("a row for runs, 6 and 6", z.dock(0), 6);
        Check.due("a row", z.boat(0, 2, 0), 0);
    }

    private static void mostFirst() {
        Check.sentence("In the order of what they save (the most first;");
        // They save 1, 5, 3 and 7, and each toll is 3.
        int[] ranges = {0, 1, 512, 515, 768, 770, 1792, 1796};
        int[] bays = {7, 2, 3, 0};
        for (int coins = 1; coins <= 4; coins++) {
            BoatSets x = Made.rowsAtSea(3 * coins, ranges);
            Check.due("coins for " + coins, x.dock(0), 3 * coins);
            for (int place = 0; place < 4; place++) {
                Check.due("of " + coins + ", place " + place, x.boat(0, bays[place], 0), place < coins ? 2 : 0);
            }
        }
    }

    private static void lowestBayFirst() {
        Check.sentence("of the same the lowest bay first)");
        // All save 7 for a toll of 3.
        int[] ranges = {1792, 1796, 256, 260, 1024, 1028};
        int[] bays = {1, 4, 7};
        for (int coins = 1; coins <= 3; coins++) {
            BoatSets x = Made.rowsAtSea(3 * coins, ranges);
            Check.due("coins for " + coins, x.dock(0), 3 * coins);
            for (int place = 0; place < 3; place++) {
                Check.due("of " + coins + ", place " + place, x.boat(0, bays[place], 0), place < coins ? 2 : 0);
            }
        }
        // Bay 1: 8 in 4 runs save 16 less 12; bay 6: 5 in 2 runs save 10 less 6.
        BoatSets x = Made.rowsAtSea(12, 1536, 1537, 1540, 1542);
        Made.addAll(x, 0, Made.runs(256, 4, 2, 1));
        Check.due("the dear one, as its bay is lower", x.dock(0), 12);
        Check.due("bay 6 stays", x.boat(0, 6, 0), 0);
    }

    private static void purseHasTheTollThen() {
        Check.sentence("they become boats of the best kind, if the purse has the toll then");
        int[] ranges = {0, 9, 512, 519};
        BoatSets both = Made.rowsAtSea(6, ranges);
        Check.due("6 coins for 3 and 3", both.dock(0), 6);
        Check.due("none is left", both.set(0, 3), 0);
        Check.due("bay 2 too", both.boat(0, 2, 0), 2);
        BoatSets one = Made.rowsAtSea(5, ranges);
        Check.due("5 coins: when bay 2 comes, 2 are left", one.dock(0), 3);
        Check.due("2 are left", one.set(0, 3), 2);
        Check.due("bay 2 stays", one.boat(0, 2, 0), 0);
        BoatSets none = Made.rowsAtSea(2, ranges);
        Check.due("2 coins", none.dock(0), 0);
        Check.due("2 are left", none.set(0, 3), 2);
        Check.due("nothing was paid", none.set(0, 5), 0);
        Check.due("docked all the same", none.set(0, 4), 0);
    }

    private static void dearOnesArePassedOver() {
        Check.sentence("those for which it has not are passed over.");
        // Bay 1 saves 24 for 24, bay 3 saves 17 for 3, bay 5 saves 12 for 12, bay 6 saves 1 for 3.
        BoatSets x = Made.rowsAtSea(0, 768, 777, 1536, 1537);
        Made.addAll(x, 0, Made.runs(256, 8, 3, 1));
        Made.addAll(x, 0, Made.runs(1280, 4, 3, 1));
        x.pay(0, 14);
        Check.due("the first and the third are too dear", x.dock(0), 6);
        int[] kinds = {0, 2, 0, 2};
        int[] bays = {1, 3, 5, 6};
        for (int place = 0; place < 4; place++) {
            Check.due("bay " + bays[place], x.boat(0, bays[place], 0), kinds[place]);
        }
        Check.due("8 are left", x.set(0, 3), 8);
        x.pay(0, 4);
        Check.due("once more", x.dock(0), 12);
        Check.due("bay 5", x.boat(0, 5, 0), 2);
        Check.due("bay 1 stays", x.boat(0, 1, 0), 0);
    }
}
