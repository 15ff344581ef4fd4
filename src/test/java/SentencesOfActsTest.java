/** The sentences of promises 1 to 10, each with a test of its own. */
public final class SentencesOfActsTest {
    public static void main(String[] args) {
        newObject();
        newSetWithoutNumbers();
        newSetCoins();
        newSetReturns();
        payPutsCoins();
        payCoins();
        payReturns();
        sailReturns();
        sailAtSeaAlready();
        dockInTheHarbourAlready();
        dockReturns();
        addNumber();
        addReturns();
        addFull();
        addNone();
        removeNumber();
        removeReturns();
        removeFull();
        removeNone();
        addRangeFromTo();
        addRangeAllOrNone();
        addRangeIsOneAct();
        addRangeReturns();
        addRangeFull();
        addRangeNone();
        removeRangeFromTo();
        removeRangeAllOrNone();
        removeRangeIsOneAct();
        removeRangeReturns();
        removeRangeFull();
        removeRangeNone();
        combineGives();
        combineOverTheBays();
        combineTheSetItself();
        combineBestKinds();
        combineWithoutToll();
        combineHow();
        combineReturns();
        combineUnknown();
        combineInTheHarbour();
        combineAtSea();
        Check.finish();
    }

    private static void newObject() {
        Check.sentence("Creates a harbour without sets.");
        BoatSets x = new BoatSets();
        Check.due("sets", x.count(0), 0);
        Check.due("set 0", x.set(0, 0), -1);
        for (int what = 1; what <= 10; what++) {
            Check.due("count " + what, x.count(what), 0);
        }
        Check.due("most", x.most(), -5);
        Check.due("ofAll", x.ofAll(0), -5);
        x.newSet(5);
        Check.due("each object has its own", new BoatSets().count(0), 0);
    }

    private static void newSetWithoutNumbers() {
        Check.sentence("Adds a set without numbers.");
        BoatSets x = new BoatSets();
        x.keep();
        x.newSet(20);
        x.addRange(0, 0, 100);
        x.addRange(0, 250, 260);
        x.sail(0);
        x.restore();
        Check.due("in place of one that was", x.newSet(5), 0);
        int[] due = {0, 0, 0, 5, 0, 0, 0, -5, -5, 0};
        for (int what = 0; what <= 9; what++) {
            Check.due("told " + what, x.set(0, what), due[what]);
        }
        for (int bay = 0; bay < 8; bay++) {
            Check.due("bay " + bay, x.boat(0, bay, 1), -5);
        }
        Check.due("no 0", x.has(0, 0), 0);
        Check.due("a new boat where runs were", x.add(0, 101), 0);
        Check.due("one run, though 100 was there", x.boat(0, 0, 2), 1);
        Check.due("for nothing", x.set(0, 3), 5);
        x.sail(0);
        Check.due("a new boat at sea where runs were", x.add(0, 300), 0);
    }

    private static void newSetCoins() {
        Check.sentence("coins: 0 to 9999: its purse");
        int[] good = {0, 1, 5000, 9998, 9999};
        for (int coins : good) {
            BoatSets x = new BoatSets();
            Check.due("newSet " + coins, x.newSet(coins), 0);
            Check.due("purse", x.set(0, 3), coins);
        }
        int[] bad = {-1, 10000, 10001, 65536, Integer.MAX_VALUE, Integer.MIN_VALUE};
        for (int coins : bad) {
            BoatSets x = new BoatSets();
            Check.due("newSet " + coins, x.newSet(coins), -2);
            Check.due("no set", x.count(0), 0);
        }
    }

    private static void newSetReturns() {
        Check.sentence("Returns its number; BAD_VALUE; FULL if there are 6.");
        BoatSets x = new BoatSets();
        for (int set = 0; set < 6; set++) {
            Check.due("newSet", x.newSet(10 * set), set);
            Check.due("purse", x.set(set, 3), 10 * set);
        }
        Check.due("a seventh", x.newSet(0), -3);
        Check.due("a seventh of too many coins", x.newSet(10000), -2);
        x.undo();
        Check.due("five are left", x.newSet(77), 5);
        Check.due("six again", x.newSet(0), -3);
        Check.due("purse", x.set(5, 3), 77);
    }

    private static void payPutsCoins() {
        Check.sentence("Puts coins into the purse of a set.");
        BoatSets x = Check.withSet(5);
        x.newSet(6);
        x.addRange(0, 0, 1);
        x.pay(1, 10);
        Check.due("its purse", x.set(1, 3), 16);
        Check.due("not the other one", x.set(0, 3), 2);
        x.pay(0, 1);
        Check.due("one coin", x.set(0, 3), 3);
        Check.due("not a toll less", x.set(0, 5), 3);
        BoatSets y = Check.withSet(0);
        y.addRange(0, 0, 4);
        y.pay(0, 9);
        Check.due("no boat changes by it", y.boat(0, 0, 0), 0);
        y.sail(0);
        Check.due("at sea too", y.pay(0, 1), 10);
        Check.due("it stays at sea", y.set(0, 4), 1);
    }

    private static void payCoins() {
        Check.sentence("coins: 1 to 9999");
        int[] good = {1, 2, 9998, 9999};
        for (int coins : good) {
            Check.due("pay " + coins, Check.withSet(0).pay(0, coins), coins);
        }
        int[] bad = {0, -1, -9999, 10000, Integer.MAX_VALUE, Integer.MIN_VALUE};
        for (int coins : bad) {
            Check.due("pay " + coins, Check.withSet(0).pay(0, coins), -2);
            Check.due("pay " + coins + " to a full purse", Check.withSet(9999).pay(0, coins), -2);
        }
    }

    private static void payReturns() {
        Check.sentence("Returns what the purse has then; UNKNOWN; BAD_VALUE; FULL if that would be more than 9999.");
        BoatSets x = Check.withSet(9000);
        Check.due("9990", x.pay(0, 990), 9990);
        Check.due("10000", x.pay(0, 10), -3);
        Check.due("9990 still", x.set(0, 3), 9990);
        Check.due("9999", x.pay(0, 9), 9999);
        Check.due("10000 again", x.pay(0, 1), -3);
        Check.due("19998", x.pay(0, 9999), -3);
        Check.due("no set 1", x.pay(1, 1), -1);
    }

    private static void sailReturns() {
        Check.sentence("Returns how many boats it has");
        BoatSets x = Check.withSet(0);
        Check.due("none", x.sail(0), 0);
        Check.due("at sea", x.set(0, 4), 1);
        for (int boats = 1; boats <= 8; boats++) {
            BoatSets y = Check.withSet(9999);
            y.addRange(0, 2047 - 256 * boats + 1, 2047);
            Check.due("boats", y.sail(0), boats);
        }
        BoatSets z = Check.withSet(9999);
        z.newSet(0);
        z.add(0, 0);
        z.addRange(0, 300, 310);
        Check.addSingles(z, 0, 512, 17);
        z.add(1, 1000);
        Check.due("of each kind one", z.sail(0), 3);
        Check.due("the other set stays", z.set(1, 4), 0);
    }

    private static void sailAtSeaAlready() {
        Check.sentence("NONE if it is at sea already.");
        BoatSets x = Check.withSet(0);
        x.newSet(0);
        x.add(0, 5);
        Check.due("one boat", x.sail(0), 1);
        Check.due("already", x.sail(0), -5);
        Check.due("at sea still", x.set(0, 4), 1);
        Check.due("the other one is not", x.sail(1), 0);
        x.dock(0);
        Check.due("docked", x.sail(0), 1);
    }

    private static void dockInTheHarbourAlready() {
        Check.sentence("Lets a set dock (also one that is in the harbour already: its boats are looked at once more).");
        BoatSets x = Check.withSet(0);
        x.addRange(0, 0, 4);
        x.addRange(0, 300, 304);
        x.pay(0, 5);
        Check.due("one has its toll", x.dock(0), 3);
        Check.due("in the harbour", x.set(0, 4), 0);
        Check.due("runs", x.boat(0, 0, 0), 2);
        Check.due("a row", x.boat(0, 1, 0), 0);
        x.pay(0, 1);
        Check.due("looked at once more", x.dock(0), 3);
        Check.due("runs too", x.boat(0, 1, 0), 2);
        Check.due("nothing is left to do", x.dock(0), 0);
        Check.due("in the harbour still", x.set(0, 4), 0);
    }

    private static void dockReturns() {
        Check.sentence("Returns the tolls that are paid; UNKNOWN.");
        BoatSets x = Check.withSet(50);
        x.addRange(0, 0, 1);
        x.sail(0);
        x.addRange(0, 256, 260);
        x.addRange(0, 512, 515);
        x.addRange(0, 600, 603);
        Check.due("3 and 6", x.dock(0), 9);
        Check.due("all that were paid ever: 3 more", x.set(0, 5), 12);
        Check.due("38 are left", x.set(0, 3), 38);
        Check.due("nothing to pay", x.dock(0), 0);
        Check.due("no set 1", x.dock(1), -1);
        Check.due("no boats", Check.withSet(5).dock(0), 0);
        Check.due("no coins", Made.rowsAtSea(0, 0, 4).dock(0), 0);
        BoatSets all = Check.withSet(0);
        all.sail(0);
        for (int bay = 0; bay < 8; bay++) {
            Made.addAll(all, 0, 256 * bay, 256 * bay + 5, 256 * bay + 10, 256 * bay + 15);
        }
        all.pay(0, 100);
        Check.due("eight of 6", all.dock(0), 48);
    }

    private static void addNumber() {
        Check.sentence("number: 0 to 2047");
        int[] good = {0, 1, 255, 256, 1023, 1024, 2046, 2047};
        BoatSets x = Check.withSet(0);
        for (int number : good) {
            Check.due("not there", x.has(0, number), 0);
            Check.due("add " + number, x.add(0, number), 0);
            Check.due("there", x.has(0, number), 1);
        }
        int[] bad = {-1, -256, 2048, 2049, 4096, 65536, Integer.MAX_VALUE, Integer.MIN_VALUE};
        for (int number : bad) {
            Check.due("add " + number, x.add(0, number), -2);
        }
        Check.due("so many are there", x.set(0, 0), good.length);
    }

    private static void addReturns() {
        Check.sentence("Returns the kind of its boat then");
        BoatSets x = Check.withSet(9999);
        Check.due("a row", x.add(0, 0), 0);
        Check.due("runs", x.add(0, 1), 2);
        Check.due("another boat: a row", x.add(0, 256), 0);
        Check.due("runs again", x.add(0, 2), 2);
        Check.addSingles(x, 0, 512, 16);
        Check.due("bits", x.add(0, 600), 1);
        Check.due("runs of the boat before", x.add(0, 3), 2);
        Check.due("a row of the other one", x.add(0, 258), 0);
        x.newSet(0);
        Check.due("a row of another set", x.add(1, 1), 0);
        x.sail(0);
        Check.due("bits at sea", x.add(0, 601), 1);
    }

    private static void addFull() {
        Check.sentence("FULL if the number cannot come (one that is there need not come)");
        BoatSets x = Made.rowsAtSea(9999, 0, 23);
        Check.due("the 25th", x.add(0, 24), -3);
        Check.due("one that is there", x.add(0, 23), -5);
        BoatSets y = Made.atSea(9999, Made.eightRuns());
        Check.due("a ninth run", y.add(0, 100), -3);
        Check.due("one that is there", y.add(0, 0), -5);
        BoatSets z = Check.withSet(2);
        z.addRange(0, 0, 23);
        Check.due("in the harbour", z.add(0, 24), -3);
        Check.due("one that is there", z.add(0, 0), -5);
    }

    private static void addNone() {
        Check.sentence("NONE if it is there already.");
        BoatSets x = Check.withSet(0);
        x.newSet(0);
        x.add(0, 5);
        Check.due("there", x.add(0, 5), -5);
        Check.due("not in the other set", x.add(1, 5), 0);
        x.addRange(0, 0, 4);
        x.pay(0, 50);
        Check.due("there, and its boat is not the best one", x.add(0, 4), -5);
        Check.due("it stays", x.boat(0, 0, 0), 0);
        Check.due("no toll", x.set(0, 3), 50);
        x.remove(0, 5);
        Check.due("not there any more", x.add(0, 5), 2);
    }

    private static void removeNumber() {
        Check.sentence("number: 0 to 2047");
        int[] good = {0, 1, 255, 256, 1023, 1024, 2046, 2047};
        BoatSets x = Check.withSet(9999);
        x.addRange(0, 0, 2047);
        for (int number : good) {
            Check.that("remove " + number, x.remove(0, number) > 0);
            Check.due("not there", x.has(0, number), 0);
        }
        int[] bad = {-1, -256, 2048, 2049, 4096, 65536, Integer.MAX_VALUE, Integer.MIN_VALUE};
        for (int number : bad) {
            Check.due("remove " + number, x.remove(0, number), -2);
        }
        Check.due("so many are left", x.set(0, 0), 2048 - good.length);
    }

    private static void removeReturns() {
        Check.sentence("Returns how many numbers its boat has then (0 if it is gone)");
        BoatSets x = Check.withSet(9999);
        x.addRange(0, 250, 258);
        Check.due("bay 0: 5", x.remove(0, 251), 5);
        Check.due("bay 1: 2", x.remove(0, 256), 2);
        Check.due("bay 0: 4", x.remove(0, 250), 4);
        Check.due("bay 1: 1", x.remove(0, 258), 1);
        Check.due("bay 1 is gone", x.remove(0, 257), 0);
        Check.due("bay 0 is not", x.remove(0, 255), 3);
        BoatSets y = Check.withSet(9999);
        y.addRange(0, 512, 767);
        Check.due("255", y.remove(0, 600), 255);
    }

    private static void removeFull() {
        Check.sentence("FULL if the number cannot go (a boat of runs that would have too many)");
        BoatSets sea = Made.atSea(9999, Made.eightRuns());
        Check.due("at sea", sea.remove(0, 9), -3);
        Check.due("it is there still", sea.has(0, 9), 1);
        BoatSets harbour = Made.withBest(31, Made.eightRuns());
        Check.due("in the harbour, a coin too few", harbour.remove(0, 9), -3);
        Check.due("one at an end can go", harbour.remove(0, 8), 31);
        harbour.pay(0, 1);
        Check.due("with the toll it can", harbour.remove(0, 18), 30);
        BoatSets seven = Made.atSea(0, Made.runs(0, 7, 4, 4));
        Check.due("of seven runs it can", seven.remove(0, 9), 27);
        BoatSets bits = Made.atSea(0, Made.runs(0, 9, 4, 4));
        Check.due("of bits it can", bits.remove(0, 9), 35);
        BoatSets row = Made.rowsAtSea(0, 0, 19);
        for (int number = 1; number < 19; number += 2) {
            Check.that("of a row it can", row.remove(0, number) > 0);
        }
    }

    private static void removeNone() {
        Check.sentence("NONE if it is not there.");
        BoatSets x = Made.atSea(0, Made.eightRuns());
        Check.due("between full runs", x.remove(0, 5), -5);
        Check.due("of a bay without a boat", x.remove(0, 300), -5);
        x.remove(0, 0);
        Check.due("gone already", x.remove(0, 0), -5);
        BoatSets y = Check.withSet(0);
        y.newSet(0);
        y.add(1, 5);
        Check.due("it is in another set", y.remove(0, 5), -5);
    }

    private static void addRangeFromTo() {
        Check.sentence("from: 0 to 2047; to: from to 2047");
        BoatSets x = Check.withSet(9999);
        Check.due("0 to 0", x.addRange(0, 0, 0), 1);
        Check.due("2047 to 2047", x.addRange(0, 2047, 2047), 1);
        Check.due("7 to 6", x.addRange(0, 7, 6), -2);
        Check.due("2047 to 0", x.addRange(0, 2047, 0), -2);
        Check.due("-1 to 5", x.addRange(0, -1, 5), -2);
        Check.due("-2 to -1", x.addRange(0, -2, -1), -2);
        Check.due("5 to 2048", x.addRange(0, 5, 2048), -2);
        Check.due("2048 to 2048", x.addRange(0, 2048, 2048), -2);
        Check.due("all ints", x.addRange(0, Integer.MIN_VALUE, Integer.MAX_VALUE), -2);
        Check.due("two are there", x.set(0, 0), 2);
        Check.due("0 to 2047", x.addRange(0, 0, 2047), 2046);
    }

    private static void addRangeAllOrNone() {
        Check.sentence("Adds all numbers of a range to a set; all of them, or none.");
        BoatSets x = Check.withSet(3);
        Check.due("runs in bay 0, too many for a row in bay 1", x.addRange(0, 254, 280), -3);
        Check.due("none", x.set(0, 0), 0);
        Check.due("no boat", x.set(0, 1), 0);
        Check.due("no toll", x.set(0, 3), 3);
        Check.due("none was paid", x.set(0, 5), 0);
        Check.due("one less", x.addRange(0, 254, 279), 26);
        for (int number = 253; number <= 280; number++) {
            Check.due("has " + number, x.has(0, number), number >= 254 && number <= 279 ? 1 : 0);
        }
        BoatSets y = Made.rowsAtSea(0, 0, 9, 256, 275);
        Check.due("5 to 260 with a row in bay 0", y.addRange(0, 5, 260), -3);
        Check.due("250 to 280: 6, then 5", y.addRange(0, 250, 280), -3);
        Check.due("30 as before", y.set(0, 0), 30);
    }

    private static void addRangeIsOneAct() {
        Check.sentence("This is one act.");
        BoatSets x = Check.withSet(9999);
        Check.due("600 come", x.addRange(0, 0, 599), 600);
        Check.due("one state more", x.count(9), 2);
        Check.due("undone at once", x.undo(), 1);
        Check.due("none is left", x.set(0, 0), 0);
        Check.due("no toll", x.set(0, 3), 9999);
    }

    private static void addRangeReturns() {
        Check.sentence("Returns how many numbers come");
        BoatSets x = Check.withSet(9999);
        Check.due("10", x.addRange(0, 10, 19), 10);
        Check.due("5 of 10", x.addRange(0, 15, 24), 5);
        Check.due("1 of 16", x.addRange(0, 9, 24), 1);
        Check.due("over three bays", x.addRange(0, 250, 520), 271);
        Check.due("into gaps", x.addRange(0, 0, 300), 9 + 225);
    }

    private static void addRangeFull() {
        Check.sentence("FULL if one of them cannot come");
        BoatSets x = Check.withSet(0);
        Check.due("the last one", x.addRange(0, 100, 124), -3);
        x.addRange(0, 100, 123);
        Check.due("the only one", x.addRange(0, 124, 124), -3);
        Check.due("the first one", x.addRange(0, 99, 123), -3);
        Check.due("the only one that is not there", x.addRange(0, 100, 124), -3);
        Check.due("24", x.set(0, 0), 24);
        BoatSets y = Made.atSea(0, Made.eightRuns());
        Check.due("a ninth run, though the next one joins it", y.addRange(0, 6, 7), -3);
        Check.due("joining at once", y.addRange(0, 7, 7), 1);
    }

    private static void addRangeNone() {
        Check.sentence("NONE if all are there already.");
        BoatSets x = Check.withSet(0);
        x.addRange(0, 232, 279);
        Check.due("all", x.addRange(0, 232, 279), -5);
        Check.due("some of them", x.addRange(0, 240, 260), -5);
        Check.due("one of them", x.addRange(0, 279, 279), -5);
        Check.due("no act", x.count(9), 2);
    }

    private static void removeRangeFromTo() {
        Check.sentence("from: 0 to 2047; to: from to 2047");
        BoatSets x = Check.withSet(9999);
        x.addRange(0, 0, 2047);
        Check.due("7 to 6", x.removeRange(0, 7, 6), -2);
        Check.due("2047 to 0", x.removeRange(0, 2047, 0), -2);
        Check.due("-1 to 5", x.removeRange(0, -1, 5), -2);
        Check.due("5 to 2048", x.removeRange(0, 5, 2048), -2);
        Check.due("2048 to 2048", x.removeRange(0, 2048, 2048), -2);
        Check.due("all ints", x.removeRange(0, Integer.MIN_VALUE, Integer.MAX_VALUE), -2);
        Check.due("all are there", x.set(0, 0), 2048);
        Check.due("0 to 0", x.removeRange(0, 0, 0), 1);
        Check.due("2047 to 2047", x.removeRange(0, 2047, 2047), 1);
        Check.due("0 to 2047", x.removeRange(0, 0, 2047), 2046);
        Check.due("none is left", x.set(0, 0), 0);
    }

    private static void removeRangeAllOrNone() {
        Check.sentence("Removes all numbers of a range from a set; all of them, or none.");
        BoatSets x = Made.atSea(0, 0, 3, 8, 11, 16, 19, 24, 27, 32, 35, 40, 43, 48, 51, 56, 59, 256, 260);
        Check.due("1 would split a run", x.removeRange(0, 1, 258), -3);
        Check.due("none went", x.set(0, 0), 37);
        Check.due("from 0 on all can", x.removeRange(0, 0, 258), 35);
        for (int number = 255; number <= 261; number++) {
            Check.due("has " + number, x.has(0, number), number == 259 || number == 260 ? 1 : 0);
        }
    }

    private static void removeRangeIsOneAct() {
        Check.sentence("This is one act.");
        BoatSets x = Check.withSet(9999);
        x.addRange(0, 0, 599);
        Check.due("500 go", x.removeRange(0, 50, 549), 500);
        Check.due("one state more", x.count(9), 3);
        Check.due("undone at once", x.undo(), 2);
        Check.due("all are there", x.set(0, 0), 600);
    }

    private static void removeRangeReturns() {
        Check.sentence("Returns how many numbers go");
        BoatSets x = Check.withSet(9999);
        x.addRange(0, 10, 29);
        x.addRange(0, 250, 265);
        Check.due("5", x.removeRange(0, 15, 19), 5);
        Check.due("5 of 15", x.removeRange(0, 10, 24), 10);
        Check.due("over two bays", x.removeRange(0, 200, 260), 11);
        Check.due("the rest", x.removeRange(0, 0, 2047), 10);
    }

    private static void removeRangeFull() {
        Check.sentence("FULL if one of them cannot go");
        BoatSets x = Made.withBest(31, Made.eightRuns());
        Check.due("9 would split a run", x.removeRange(0, 9, 10), -3);
        Check.due("both are there", x.set(0, 0), 32);
        Check.due("up to the end of the run too", x.removeRange(0, 9, 11), -3);
        Check.due("the upper end alone", x.removeRange(0, 11, 14), 1);
        x.pay(0, 1);
        Check.due("with the toll", x.removeRange(0, 17, 18), 2);
        Check.due("bits", x.boat(0, 0, 0), 1);
    }

    private static void removeRangeNone() {
        Check.sentence("NONE if none is there.");
        BoatSets x = Made.atSea(0, Made.eightRuns());
        Check.due("between two runs", x.removeRange(0, 4, 7), -5);
        Check.due("of bays without a boat", x.removeRange(0, 256, 2047), -5);
        Check.due("of an empty set", Check.withSet(0).removeRange(0, 0, 2047), -5);
        int states = x.count(9);
        Check.due("between two runs", x.removeRange(0, 12, 15), -5);
        Check.due("no act", x.undo(), states - 1);
        Check.due("undone: sail", x.set(0, 4), 0);
    }

    /** Set 0 has 10 to 29, set 1 has 20 to 49, set 2 has 1000 and coins. */
    private static BoatSets three() {
        BoatSets x = Check.withSet(9999);
        x.newSet(9999);
        x.newSet(5);
        x.addRange(0, 10, 29);
        x.addRange(1, 20, 49);
        x.add(2, 1000);
        return x;
    }

    private static void combineGives() {
        Check.sentence("how: 0 for all numbers that one of both has, 1 for those that both have, "
            + "2 for those that the first one has and the other one has not, 3 for those that just one of both has");
        int[] least = {10, 20, 10, 10};
        int[] greatest = {49, 29, 19, 49};
        int[] sizes = {40, 10, 10, 30};
        int[] fives = {1, 0, 0, 1};
        for (int how = 0; how <= 3; how++) {
            BoatSets x = three();
            x.combine(how, 2, 0, 1);
            Check.due("how " + how + ": least", x.set(2, 7), least[how]);
            Check.due("how " + how + ": greatest", x.set(2, 8), greatest[how]);
            Check.due("how " + how + ": size", x.set(2, 0), sizes[how]);
            Check.due("how " + how + ": of both", x.has(2, 25), how < 2 ? 1 : 0);
            Check.due("how " + how + ": of the other", x.has(2, 40), fives[how]);
            Check.due("how " + how + ": what it had", x.has(2, 1000), 0);
            Check.due("how " + how + ": set 0 stays", x.set(0, 0), 20);
            Check.due("how " + how + ": set 1 stays", x.set(1, 0), 30);
        }
        BoatSets turned = three();
        turned.combine(2, 2, 1, 0);
        Check.due("the first one is set 1", turned.set(2, 7), 30);
        Check.due("up to", turned.set(2, 8), 49);
    }

    private static void combineOverTheBays() {
        Check.sentence("Makes the numbers of a set those that two sets give");
        int[] both = {0, 63, 64, 255, 256, 1000, 1023, 2047};
        int[] first = {1, 127, 512, 2046};
        int[] other = {2, 128, 767, 1792};
        BoatSets x = Check.withSet(9999);
        x.newSet(9999);
        x.newSet(0);
        x.newSet(0);
        for (int number : both) {
            x.add(0, number);
            x.add(1, number);
        }
        for (int number : first) {
            x.add(0, number);
        }
        for (int number : other) {
            x.add(1, number);
        }
        x.combine(1, 2, 0, 1);
        x.combine(2, 3, 0, 1);
        for (int place = 0; place < both.length; place++) {
            Check.due("both", x.at(2, place), both[place]);
        }
        for (int place = 0; place < first.length; place++) {
            Check.due("the first alone", x.at(3, place), first[place]);
        }
        Check.due("one of both", x.combine(0, 2, 1, 0), 16);
        Check.due("just one", x.combine(3, 3, 1, 0), 8);
        Check.due("boats", x.set(3, 1), 3);
    }

    private static void combineTheSetItself() {
        Check.sentence("(one of them can be the set itself)");
        int[] sizes = {40, 10, 10, 30};
        int[] turned = {40, 10, 20, 30};
        for (int how = 0; how <= 3; how++) {
            BoatSets x = three();
            Check.due("into the first, how " + how, x.combine(how, 0, 0, 1), sizes[how]);
            Check.due("size", x.set(0, 0), sizes[how]);
            Check.due("the other stays", x.set(1, 0), 30);
            BoatSets y = three();
            Check.due("into the other, how " + how, y.combine(how, 1, 0, 1), sizes[how]);
            Check.due("size", y.set(1, 0), sizes[how]);
            Check.due("the first stays", y.set(0, 0), 20);
            BoatSets z = three();
            Check.due("turned, how " + how, z.combine(how, 0, 1, 0), turned[how]);
            BoatSets same = three();
            Check.due("with itself, how " + how, same.combine(how, 0, 0, 0), how < 2 ? 20 : 0);
        }
        BoatSets x = three();
        Check.due("with itself into another", x.combine(0, 2, 1, 1), 30);
    }

    private static void combineBestKinds() {
        Check.sentence("Each of its boats is one of the best kind then");
        BoatSets x = Made.rowsAtSea(0, 0, 9, 256, 265);
        x.dock(0);
        Check.due("a row", x.boat(0, 0, 0), 0);
        Check.due("with itself", x.combine(1, 0, 0, 0), 20);
        Check.due("runs", x.boat(0, 0, 0), 2);
        Check.due("of all bays", x.boat(0, 1, 0), 2);
        BoatSets y = Check.withSet(0);
        y.newSet(0);
        y.newSet(0);
        Check.addSingles(y, 0, 0, 16);
        Check.addSingles(y, 1, 30, 16);
        y.combine(0, 2, 0, 1);
        Check.due("31 singles: bits", y.boat(2, 0, 0), 1);
        y.combine(1, 2, 0, 1);
        Check.due("one number: a row", y.boat(2, 0, 0), 0);
        y.combine(0, 2, 0, 0);
        Check.due("16 singles: a row", y.boat(2, 0, 0), 0);
        y.combine(3, 2, 0, 0);
        Check.due("no number: no boat", y.boat(2, 0, 0), -5);
        Check.due("nor units", y.set(2, 2), 0);
    }

    private static void combineWithoutToll() {
        Check.sentence("without a toll.");
        BoatSets x = Check.withSet(9999);
        x.newSet(50);
        x.newSet(0);
        x.addRange(0, 0, 40);
        x.addRange(1, 300, 301);
        x.addRange(2, 600, 601);
        x.combine(0, 1, 0, 1);
        Check.due("its purse", x.set(1, 3), 47);
        Check.due("its tolls", x.set(1, 5), 3);
        Check.due("the other's purse", x.set(0, 3), 9996);
        Check.due("the other's tolls", x.set(0, 5), 3);
        x.combine(0, 2, 0, 2);
        Check.due("with an empty purse", x.boat(2, 0, 0), 2);
        Check.due("both boats", x.boat(2, 2, 0), 2);
        Check.due("empty still", x.set(2, 3), 0);
        Check.due("nothing paid", x.set(2, 5), 0);
    }

    private static void combineHow() {
        Check.sentence("how: 0 for all numbers that one of both has, 1 for those that both have, "
            + "2 for those that the first one has and the other one has not, 3 for those that just one of both has");
        int[] bad = {-1, 4, 5, Integer.MAX_VALUE, Integer.MIN_VALUE};
        for (int how : bad) {
            BoatSets x = three();
            Check.due("how " + how, x.combine(how, 2, 0, 1), -2);
            Check.due("as it was", x.set(2, 7), 1000);
        }
    }

    private static void combineReturns() {
        Check.sentence("Returns how many numbers it has then");
        BoatSets x = Check.withSet(9999);
        x.newSet(0);
        x.addRange(0, 0, 2047);
        Check.due("all", x.combine(0, 1, 0, 1), 2048);
        Check.due("none", x.combine(3, 1, 0, 1), 0);
        Check.due("none of none", x.combine(0, 1, 1, 1), 0);
    }

    private static void combineUnknown() {
        Check.sentence("UNKNOWN (into, set or other)");
        BoatSets x = three();
        int[] unknown = {3, -1, 6, Integer.MAX_VALUE, Integer.MIN_VALUE};
        for (int set : unknown) {
            Check.due("into " + set, x.combine(0, set, 0, 1), -1);
            Check.due("set " + set, x.combine(0, 2, set, 1), -1);
            Check.due("other " + set, x.combine(0, 2, 0, set), -1);
        }
        Check.due("as it was", x.set(2, 7), 1000);
        Check.due("set 2 is known", x.combine(0, 2, 2, 2), 1);
    }

    private static void combineInTheHarbour() {
        Check.sentence("into: the set, which is in the harbour");
        BoatSets x = three();
        x.sail(0);
        x.sail(1);
        Check.due("into a set in the harbour, of two at sea", x.combine(0, 2, 0, 1), 40);
        Check.due("it stays in the harbour", x.set(2, 4), 0);
        Check.due("they stay at sea", x.count(1), 2);
    }

    private static void combineAtSea() {
        Check.sentence("NOT_POSSIBLE if it is at sea.");
        BoatSets x = three();
        x.sail(2);
        Check.due("into a set at sea", x.combine(0, 2, 0, 1), -4);
        Check.due("also with itself", x.combine(0, 2, 2, 2), -4);
        Check.due("as it was", x.set(2, 7), 1000);
        Check.due("out of one at sea", x.combine(0, 0, 1, 2), 31);
        Check.due("it stays at sea", x.set(2, 4), 1);
        x.sail(1);
        Check.due("out of two at sea", x.combine(1, 0, 1, 2), 0);
        Check.due("in the harbour still", x.set(0, 4), 0);
        x.dock(2);
        Check.due("docked", x.combine(1, 2, 2, 2), 1);
    }
}
