/** Promises 1 to 5: a new object, newSet, pay, sail, dock. */
public final class SetsTest {
    public static void main(String[] args) {
        promise01NewObject();
        promise02NewSet();
        promise02NewSetHasNothingOfTheOneBefore();
        promise03Pay();
        promise04Sail();
        promise05DockPaysAndOrders();
        promise05DockPassesOver();
        promise05DockBySavingsAlone();
        promise05DockEightBoats();
        promise05DockTies();
        promise05DockAgain();
        Check.finish();
    }

    private static void promise01NewObject() {
        BoatSets x = new BoatSets();
        for (int what = 0; what <= 10; what++) {
            Check.due("count " + what, x.count(what), 0);
        }
        Check.due("undo of nothing", x.undo(), -5);
        Check.due("restore of nothing", x.restore(), -5);
        Check.due("most of nothing", x.most(), -5);
        Check.due("ofAll of nothing", x.ofAll(0), -5);
        Check.due("no set 0", x.set(0, 0), -1);
        BoatSets other = new BoatSets();
        other.newSet(1);
        Check.due("objects share nothing", x.count(0), 0);
    }

    private static void promise02NewSet() {
        BoatSets x = new BoatSets();
        Check.due("coins -1", x.newSet(-1), -2);
        Check.due("coins 10000", x.newSet(10000), -2);
        Check.due("errors are no acts", x.count(9), 0);
        for (int set = 0; set < 6; set++) {
            Check.due("newSet", x.newSet(set == 5 ? 9999 : set), set);
        }
        Check.due("a seventh set", x.newSet(0), -3);
        Check.due("BAD_VALUE ahead of FULL", x.newSet(-1), -2);
        Check.due("BAD_VALUE ahead of FULL, large", x.newSet(Integer.MAX_VALUE), -2);
        Check.due("purse 3", x.set(3, 3), 3);
        Check.due("purse 5", x.set(5, 3), 9999);
        Check.due("in the harbour", x.set(5, 4), 0);
        Check.due("without numbers", x.set(5, 0), 0);
        Check.due("an act with six sets", x.add(5, 1), 0);
        Check.due("counted in all six", x.count(6) + x.count(2) + x.count(5), 4);
        Check.due("the most of six", x.most(), 1);
        Check.due("undone", x.undo(), 3);
        Check.due("newSet is an act", x.undo(), 2);
        Check.due("one set less", x.count(0), 5);
        Check.due("the same number again", x.newSet(7), 5);
    }

    private static void promise02NewSetHasNothingOfTheOneBefore() {
        BoatSets x = new BoatSets();
        x.keep();
        x.newSet(100);
        x.addRange(0, 0, 99);
        x.addRange(0, 300, 301);
        x.sail(0);
        Check.due("an empty harbour", x.restore(), 0);
        for (int what = 0; what < 9; what++) {
            Check.due("nothing is counted " + what, x.count(what), 0);
        }
        Check.due("no most", x.most(), -5);
        Check.due("no place", x.ofAll(0), -5);
        x.newSet(3);
        Check.due("no numbers left over", x.set(0, 0), 0);
        Check.due("no boats left over", x.set(0, 1), 0);
        Check.due("no tolls left over", x.set(0, 5), 0);
        Check.due("not at sea", x.set(0, 4), 0);
        Check.due("its own purse", x.set(0, 3), 3);
        Check.due("no runs left over", x.set(0, 6), 0);
        Check.due("no units left over", x.set(0, 2), 0);
        x.sail(0);
        Check.due("add to it", x.add(0, 5), 0);
        Check.due("a row", x.add(0, 301), 0);
        Check.due("two runs", x.set(0, 6), 2);
    }

    private static void promise03Pay() {
        BoatSets x = Check.withSet(9990);
        Check.due("unknown set", x.pay(1, 1), -1);
        Check.due("unknown set -1", x.pay(-1, 1), -1);
        Check.due("UNKNOWN ahead of BAD_VALUE", x.pay(1, 0), -1);
        Check.due("coins 0", x.pay(0, 0), -2);
        Check.due("coins -1", x.pay(0, -1), -2);
        Check.due("BAD_VALUE ahead of FULL", x.pay(0, 10000), -2);
        Check.due("largest int", x.pay(0, Integer.MAX_VALUE), -2);
        Check.due("one too many", x.pay(0, 10), -3);
        Check.due("changes nothing", x.set(0, 3), 9990);
        Check.due("errors are no acts", x.count(9), 1);
        Check.due("one coin", x.pay(0, 1), 9991);
        Check.due("up to the brim", x.pay(0, 8), 9999);
        Check.due("an act", x.count(9), 3);
        x.undo();
        Check.due("undone", x.set(0, 3), 9991);
        BoatSets y = Check.withSet(0);
        Check.due("9999 coins", y.pay(0, 9999), 9999);
        y.sail(0);
        Check.due("full at sea too", y.pay(0, 1), -3);
    }

    private static void promise04Sail() {
        BoatSets x = Check.withSet(50);
        x.newSet(0);
        Check.due("unknown set", x.sail(2), -1);
        Check.due("unknown set -1", x.sail(-1), -1);
        Check.due("no boats", x.sail(1), 0);
        Check.due("at sea already", x.sail(1), -5);
        x.add(0, 0);
        x.add(0, 255);
        x.add(0, 256);
        x.add(0, 2047);
        int states = x.count(9);
        Check.due("three boats", x.sail(0), 3);
        Check.due("at sea", x.set(0, 4), 1);
        Check.due("states", states, 4);
        Check.due("NONE records nothing", x.sail(0), -5);
        Check.due("an act", x.undo(), 3);
        Check.due("in the harbour again", x.set(0, 4), 0);
    }

    /** Bay 0 would save 28, bay 1 save 43, bay 2 save 28. */
    private static BoatSets threeRows(int coins) {
        BoatSets x = Check.withSet(0);
        x.sail(0);
        x.addRange(0, 0, 16);
        x.addRange(0, 256, 278);
        x.addRange(0, 512, 516);
        x.add(0, 600);
        if (coins > 0) {
            x.pay(0, coins);
        }
        return x;
    }

    private static void promise05DockPaysAndOrders() {
        BoatSets x = threeRows(100);
        Check.due("unknown set", x.dock(1), -1);
        Check.due("unknown set -1", x.dock(-1), -1);
        Check.due("still at sea", x.set(0, 4), 1);
        Check.due("what it would pay", x.tollToDock(0), 12);
        Check.due("tolls 3 + 3 + 6", x.dock(0), 12);
        Check.due("purse", x.set(0, 3), 88);
        Check.due("paid", x.set(0, 5), 12);
        Check.due("in the harbour", x.set(0, 4), 0);
        for (int bay = 0; bay < 3; bay++) {
            Check.due("kind of bay " + bay, x.boat(0, bay, 0), 2);
        }
        x.undo();
        Check.due("undone: at sea", x.set(0, 4), 1);
        Check.due("undone: a row", x.boat(0, 1, 0), 0);
        Check.due("undone: purse", x.set(0, 3), 100);
        Check.due("undone: paid", x.set(0, 5), 0);
        BoatSets y = threeRows(3);
        Check.due("coins for one", y.dock(0), 3);
        Check.due("bay 1 saves the most", y.boat(0, 1, 0), 2);
        Check.due("bay 0 not", y.boat(0, 0, 0), 0);
        Check.due("bay 2 not", y.boat(0, 2, 0), 0);
        BoatSets z = threeRows(0);
        Check.due("without coins", z.dock(0), 0);
        Check.due("docks all the same", z.set(0, 4), 0);
    }

    private static void promise05DockPassesOver() {
        // Bay 3: 24 numbers in 2 runs save 42 for 6; bay 5: 22 numbers in one run save 41 for 3.
        BoatSets x = Check.withSet(0);
        x.sail(0);
        x.addRange(0, 768, 790);
        x.add(0, 800);
        x.addRange(0, 1280, 1301);
        x.pay(0, 5);
        Check.due("what it would pay", x.tollToDock(0), 3);
        Check.due("the dear one is passed over", x.dock(0), 3);
        Check.due("bay 3 stays", x.boat(0, 3, 0), 0);
        Check.due("bay 5 becomes runs", x.boat(0, 5, 0), 2);
        Check.due("two coins are left", x.set(0, 3), 2);
        x.pay(0, 4);
        Check.due("docks once more", x.dock(0), 6);
        Check.due("bay 3 becomes runs", x.boat(0, 3, 0), 2);
        Check.due("nothing is left", x.set(0, 3), 0);
    }

    private static void promise05DockBySavingsAlone() {
        // Bay 0: bits of 15 singles save 2 for 30; bay 1: a row of 10 saves 17 for 3.
        BoatSets x = Check.withSet(32);
        Check.addSingles(x, 0, 0, 17);
        x.sail(0);
        x.remove(0, 0);
        x.remove(0, 2);
        x.addRange(0, 256, 265);
        x.pay(0, 30);
        Check.due("17 saved come ahead of 2", x.dock(0), 3);
        Check.due("bits still", x.boat(0, 0, 0), 1);
        x.pay(0, 3);
        Check.due("the rest", x.dock(0), 30);
        Check.due("a row", x.boat(0, 0, 0), 0);
    }

    private static void promise05DockEightBoats() {
        BoatSets x = Check.withSet(0);
        x.sail(0);
        for (int bay = 0; bay < 8; bay++) {
            x.addRange(0, 256 * bay, 256 * bay + 1 + bay);
        }
        x.pay(0, 24);
        Check.due("all eight", x.dock(0), 24);
        for (int bay = 0; bay < 8; bay++) {
            Check.due("runs in bay " + bay, x.boat(0, bay, 0), 2);
        }
    }

    private static void promise05DockTies() {
        // Bits of 16 numbers that are no runs of use: a row takes as much, and saves 0.
        BoatSets x = Check.withSet(100);
        Check.addSingles(x, 0, 0, 16);
        Check.due("16 singles are a row", x.boat(0, 0, 0), 0);
        x.add(0, 40);
        Check.due("17 singles are bits", x.boat(0, 0, 0), 1);
        Check.due("paid 32", x.set(0, 3), 68);
        x.sail(0);
        x.remove(0, 40);
        Check.due("bits at sea", x.boat(0, 0, 0), 1);
        Check.due("a row would be best", x.boat(0, 0, 4), 0);
        Check.due("saves nothing, pays all the same", x.dock(0), 32);
        Check.due("a row then", x.boat(0, 0, 0), 0);
        Check.due("units as before", x.set(0, 2), 32);
        // Of the same savings the lowest bay first.
        BoatSets y = Check.withSet(0);
        y.sail(0);
        y.addRange(0, 1792, 1801);
        y.addRange(0, 512, 521);
        y.addRange(0, 1024, 1033);
        y.pay(0, 7);
        Check.due("coins for two of three", y.dock(0), 6);
        Check.due("bay 2", y.boat(0, 2, 0), 2);
        Check.due("bay 4", y.boat(0, 4, 0), 2);
        Check.due("bay 7", y.boat(0, 7, 0), 0);
    }

    private static void promise05DockAgain() {
        BoatSets x = Check.withSet(0);
        x.addRange(0, 0, 9);
        Check.due("no coins, a row", x.boat(0, 0, 0), 0);
        x.pay(0, 3);
        Check.due("paying changes no boat", x.boat(0, 0, 0), 0);
        Check.due("docks in the harbour", x.dock(0), 3);
        Check.due("runs then", x.boat(0, 0, 0), 2);
        Check.due("once more", x.dock(0), 0);
        Check.due("that is an act too", x.count(9), 4);
        x.undo();
        x.undo();
        Check.due("two acts back", x.boat(0, 0, 0), 0);
    }
}
