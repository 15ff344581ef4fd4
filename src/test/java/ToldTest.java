/** Promises 17 to 29: what is told. */
public final class ToldTest {
    public static void main(String[] args) {
        promise17Has();
        promise18Set();
        promise18SetChecks();
        promise19Boat();
        promise20Rank();
        promise21At();
        promise22Next();
        promise23Nearest();
        promise24Gap();
        promise25SizeOf();
        promise26OfAll();
        promise27Most();
        promise28TollToDock();
        promise29Count();
        Check.finish();
    }

    /** One set with 0, 63, 64, 255, 256, 1000 and 2047. */
    private static BoatSets spread() {
        BoatSets x = Check.withSet(0);
        int[] numbers = {0, 63, 64, 255, 256, 1000, 2047};
        for (int number : numbers) {
            x.add(0, number);
        }
        return x;
    }

    private static void promise17Has() {
        BoatSets x = spread();
        Check.due("unknown", x.has(1, 0), -1);
        Check.due("unknown -1", x.has(-1, 0), -1);
        Check.due("UNKNOWN ahead of BAD_VALUE", x.has(1, 2048), -1);
        Check.due("-1", x.has(0, -1), -2);
        Check.due("2048", x.has(0, 2048), -2);
        Check.due("0", x.has(0, 0), 1);
        Check.due("1", x.has(0, 1), 0);
        Check.due("63", x.has(0, 63), 1);
        Check.due("65", x.has(0, 65), 0);
        Check.due("2046", x.has(0, 2046), 0);
        Check.due("2047", x.has(0, 2047), 1);
    }

    private static void promise18Set() {
        BoatSets x = Check.withSet(100);
        x.addRange(0, 10, 29);
        x.add(0, 31);
        Check.addSingles(x, 0, 256, 3);
        x.sail(0);
        x.addRange(0, 512, 515);
        int[] due = {28, 3, 20, 97, 1, 3, 6, 10, 515, 15};
        for (int what = 0; what < due.length; what++) {
            Check.due("set " + what, x.set(0, what), due[what]);
        }
        x.dock(0);
        x.addRange(0, 600, 632);
        for (int number = 601; number < 632; number += 2) {
            x.remove(0, number);
        }
        Check.due("bits are a boat too", x.boat(0, 2, 0), 1);
        Check.due("three boats", x.set(0, 1), 3);
        x.newSet(5);
        int[] empty = {0, 0, 0, 5, 0, 0, 0, -5, -5, 0};
        for (int what = 0; what < empty.length; what++) {
            Check.due("an empty set " + what, x.set(1, what), empty[what]);
        }
        x.add(1, 0);
        Check.due("least 0", x.set(1, 7), 0);
        Check.due("greatest 0", x.set(1, 8), 0);
        x.add(1, 2047);
        Check.due("greatest 2047", x.set(1, 8), 2047);
    }

    private static void promise18SetChecks() {
        BoatSets x = Check.withSet(100);
        Check.due("unknown", x.set(1, 0), -1);
        Check.due("unknown -1", x.set(-1, 0), -1);
        Check.due("UNKNOWN ahead of BAD_VALUE", x.set(1, 10), -1);
        Check.due("what -1", x.set(0, -1), -2);
        Check.due("what 10", x.set(0, 10), -2);
        Check.due("least int", x.set(0, Integer.MIN_VALUE), -2);
        Check.due("no acts", x.count(9), 1);
    }

    private static void promise19Boat() {
        BoatSets x = Check.withSet(32);
        Check.addSingles(x, 0, 256, 17);
        x.sail(0);
        x.addRange(0, 2040, 2047);
        int[] bits = {1, 17, 17, 32, 1, 0};
        int[] row = {0, 8, 1, 16, 2, 3};
        for (int what = 0; what < 6; what++) {
            Check.due("bits " + what, x.boat(0, 1, what), bits[what]);
            Check.due("a row " + what, x.boat(0, 7, what), row[what]);
            Check.due("no boat " + what, x.boat(0, 0, what), -5);
        }
        x.remove(0, 256);
        Check.due("16 singles: a row is best", x.boat(0, 1, 4), 0);
        Check.due("toll 32", x.boat(0, 1, 5), 32);
        Check.due("unknown", x.boat(1, 0, 0), -1);
        Check.due("UNKNOWN ahead of BAD_VALUE", x.boat(1, 8, 6), -1);
        Check.due("bay -1", x.boat(0, -1, 0), -2);
        Check.due("bay 8", x.boat(0, 8, 0), -2);
        Check.due("what -1", x.boat(0, 1, -1), -2);
        Check.due("what 6", x.boat(0, 1, 6), -2);
        Check.due("BAD_VALUE ahead of NONE", x.boat(0, 0, 6), -2);
        bestKinds();
    }

    /** Numbers of so many runs, each of so many numbers: kind, by the words of the document. */
    private static void bestKinds() {
        for (int runs = 1; runs <= 40; runs++) {
            for (int each = 1; each <= 5; each++) {
                BoatSets x = Check.withSet(0);
                x.newSet(0);
                x.newSet(9999);
                for (int run = 0; run < runs; run++) {
                    x.addRange(2, 6 * run, 6 * run + each - 1);
                }
                x.combine(0, 1, 2, 2);
                int size = runs * each;
                int row = size <= 24 ? 2 * size : 1000;
                int run = runs <= 8 ? 3 * runs : 1000;
                int least = Math.min(row, Math.min(run, 32));
                int due = row == least ? 0 : 32 == least ? 1 : 2;
                Check.due("best of " + runs + " x " + each, x.boat(2, 0, 4), due);
                Check.due("kind of " + runs + " x " + each, x.boat(1, 0, 0), due);
                Check.due("units of " + runs + " x " + each, x.set(1, 2), least);
            }
        }
    }

    private static void promise20Rank() {
        BoatSets x = spread();
        Check.due("unknown", x.rank(1, 0), -1);
        Check.due("UNKNOWN ahead of BAD_VALUE", x.rank(-1, -1), -1);
        Check.due("-1", x.rank(0, -1), -2);
        Check.due("2048", x.rank(0, 2048), -2);
        int[] numbers = {0, 1, 63, 64, 65, 255, 256, 257, 1000, 1001, 2047};
        int[] due = {0, 1, 1, 2, 3, 3, 4, 5, 5, 6, 6};
        for (int i = 0; i < numbers.length; i++) {
            Check.due("rank of " + numbers[i], x.rank(0, numbers[i]), due[i]);
        }
    }

    private static void promise21At() {
        BoatSets x = spread();
        Check.due("unknown", x.at(1, 0), -1);
        Check.due("UNKNOWN ahead of BAD_VALUE", x.at(1, -1), -1);
        Check.due("-1", x.at(0, -1), -2);
        Check.due("least int", x.at(0, Integer.MIN_VALUE), -2);
        int[] due = {0, 63, 64, 255, 256, 1000, 2047, -5};
        for (int place = 0; place < due.length; place++) {
            Check.due("at " + place, x.at(0, place), due[place]);
        }
        Check.due("largest int", x.at(0, Integer.MAX_VALUE), -5);
        x.newSet(0);
        Check.due("an empty set", x.at(1, 0), -5);
        for (int bay = 0; bay < 8; bay++) {
            allOfBay(bay);
        }
    }

    /** An object for each bay, as what it answers behind its 512th call is free. */
    private static void allOfBay(int bay) {
        BoatSets at = Check.withSet(100);
        at.addRange(0, 0, 2047);
        BoatSets rank = Check.withSet(100);
        rank.addRange(0, 0, 2047);
        for (int place = 256 * bay; place < 256 * bay + 256; place++) {
            Check.due("at of all", at.at(0, place), place);
            Check.due("rank of all", rank.rank(0, place), place);
        }
        Check.due("no more", at.at(0, 2048), -5);
    }

    private static void promise22Next() {
        BoatSets x = spread();
        Check.due("unknown", x.next(1, 0), -1);
        Check.due("UNKNOWN ahead of BAD_VALUE", x.next(1, 2048), -1);
        Check.due("-1", x.next(0, -1), -2);
        Check.due("2048", x.next(0, 2048), -2);
        Check.due("itself", x.next(0, 0), 0);
        Check.due("from 1", x.next(0, 1), 63);
        Check.due("from 64", x.next(0, 64), 64);
        Check.due("from 65", x.next(0, 65), 255);
        Check.due("from 257", x.next(0, 257), 1000);
        Check.due("from 2047", x.next(0, 2047), 2047);
        x.remove(0, 2047);
        Check.due("none", x.next(0, 1001), -5);
        Check.due("none at the end", x.next(0, 2047), -5);
    }

    private static void promise23Nearest() {
        BoatSets x = Check.withSet(0);
        Check.due("none", x.nearest(0, 5), -5);
        Check.due("BAD_VALUE ahead of NONE", x.nearest(0, -1), -2);
        Check.due("2048", x.nearest(0, 2048), -2);
        Check.due("unknown", x.nearest(1, 0), -1);
        Check.due("UNKNOWN ahead of BAD_VALUE", x.nearest(1, -1), -1);
        x.add(0, 100);
        Check.due("from below", x.nearest(0, 0), 100);
        Check.due("from above", x.nearest(0, 2047), 100);
        x.add(0, 110);
        Check.due("itself", x.nearest(0, 110), 110);
        Check.due("of two the lower", x.nearest(0, 105), 100);
        Check.due("nearer above", x.nearest(0, 106), 110);
        Check.due("nearer below", x.nearest(0, 104), 100);
        x.add(0, 2047);
        Check.due("over the bays", x.nearest(0, 1079), 2047);
        Check.due("the middle is below", x.nearest(0, 1078), 110);
    }

    private static void promise24Gap() {
        BoatSets x = Check.withSet(0);
        Check.due("unknown", x.gap(1, 1), -1);
        Check.due("UNKNOWN ahead of BAD_VALUE", x.gap(1, 0), -1);
        Check.due("length 0", x.gap(0, 0), -2);
        Check.due("length 2049", x.gap(0, 2049), -2);
        Check.due("all of an empty set", x.gap(0, 2048), 0);
        x.add(0, 0);
        Check.due("one too long", x.gap(0, 2048), -5);
        Check.due("just right", x.gap(0, 2047), 1);
        x.add(0, 10);
        x.add(0, 300);
        Check.due("one", x.gap(0, 1), 1);
        Check.due("nine", x.gap(0, 9), 1);
        Check.due("ten, over a bay's end", x.gap(0, 10), 11);
        Check.due("289", x.gap(0, 289), 11);
        Check.due("290", x.gap(0, 290), 301);
        Check.due("up to the end", x.gap(0, 1747), 301);
        Check.due("beyond the end", x.gap(0, 1748), -5);
        BoatSets y = Check.withSet(100);
        y.addRange(0, 0, 2047);
        Check.due("no gap", y.gap(0, 1), -5);
        y.remove(0, 2047);
        Check.due("the last one", y.gap(0, 1), 2047);
    }

    private static void promise25SizeOf() {
        BoatSets x = Check.withSet(100);
        x.newSet(100);
        x.addRange(0, 240, 269);
        x.addRange(1, 250, 289);
        int[] due = {50, 20, 10, 30};
        int[] turned = {50, 20, 20, 30};
        int[] itself = {30, 30, 0, 0};
        for (int how = 0; how < 4; how++) {
            Check.due("sizeOf " + how, x.sizeOf(how, 0, 1), due[how]);
            Check.due("sizeOf turned " + how, x.sizeOf(how, 1, 0), turned[how]);
            Check.due("sizeOf itself " + how, x.sizeOf(how, 0, 0), itself[how]);
        }
        Check.due("unknown set", x.sizeOf(0, 2, 0), -1);
        Check.due("unknown other", x.sizeOf(0, 0, 2), -1);
        Check.due("UNKNOWN ahead of BAD_VALUE", x.sizeOf(4, 0, -1), -1);
        Check.due("how 4", x.sizeOf(4, 0, 1), -2);
        Check.due("how -1", x.sizeOf(-1, 0, 1), -2);
        x.sail(0);
        Check.due("at sea too", x.sizeOf(0, 0, 1), 50);
        Check.due("changes nothing", x.set(0, 0), 30);
        x.add(0, 0);
        x.add(1, 2047);
        Check.due("the least and the greatest number", x.sizeOf(3, 0, 1), 32);
    }

    private static void promise26OfAll() {
        BoatSets x = Check.withSet(0);
        x.newSet(0);
        x.newSet(0);
        x.add(0, 5);
        x.add(1, 5);
        x.add(2, 2047);
        x.add(0, 2047);
        x.add(1, 300);
        int[] due = {5, 5, 300, 2047, 2047, -5};
        for (int place = 0; place < due.length; place++) {
            Check.due("ofAll " + place, x.ofAll(place), due[place]);
        }
        x.add(1, 0);
        x.add(1, 1984);
        Check.due("ofAll 0", x.ofAll(0), 0);
        Check.due("ofAll 1984", x.ofAll(4), 1984);
        Check.due("-1", x.ofAll(-1), -2);
        Check.due("least int", x.ofAll(Integer.MIN_VALUE), -2);
        Check.due("largest int", x.ofAll(Integer.MAX_VALUE), -5);
    }

    private static void promise27Most() {
        BoatSets x = Check.withSet(0);
        Check.due("no numbers", x.most(), -5);
        x.add(0, 900);
        Check.due("one", x.most(), 900);
        x.add(0, 0);
        Check.due("the least of several", x.most(), 0);
        x.newSet(0);
        x.add(1, 900);
        Check.due("two have it", x.most(), 900);
        x.add(1, 2047);
        x.add(0, 2047);
        Check.due("the least of two", x.most(), 900);
        x.newSet(0);
        x.add(2, 2047);
        Check.due("three have it", x.most(), 2047);
    }

    private static void promise28TollToDock() {
        BoatSets x = Check.withSet(0);
        Check.due("unknown", x.tollToDock(1), -1);
        Check.due("unknown -1", x.tollToDock(-1), -1);
        Check.due("nothing to do", x.tollToDock(0), 0);
        x.addRange(0, 0, 9);
        x.addRange(0, 300, 309);
        x.pay(0, 5);
        Check.due("in the harbour, coins for one", x.tollToDock(0), 3);
        int states = x.count(9);
        x.sail(0);
        Check.due("at sea", x.tollToDock(0), 3);
        x.pay(0, 1);
        Check.due("coins for both", x.tollToDock(0), 6);
        Check.due("stays at sea", x.set(0, 4), 1);
        Check.due("pays nothing", x.set(0, 3), 6);
        Check.due("changes no boat", x.count(2), 2);
        Check.due("states", states, 4);
        Check.due("dock pays just that", x.dock(0), 6);
        Check.due("nothing then", x.tollToDock(0), 0);
    }

    private static void promise29Count() {
        BoatSets x = Check.withSet(200);
        x.newSet(3);
        x.newSet(0);
        Check.addSingles(x, 0, 0, 17);
        x.addRange(0, 512, 519);
        x.addRange(1, 512, 514);
        x.add(1, 1000);
        x.add(2, 1000);
        x.sail(1);
        x.sail(2);
        x.type('1');
        x.type('x');
        int[] due = {3, 2, 2, 1, 2, 42, 30, 26, 38, 4, 2};
        for (int what = 0; what < due.length; what++) {
            Check.due("count " + what, x.count(what), due[what]);
        }
        x.sail(0);
        Check.due("all at sea", x.count(1), 3);
        Check.due("what -1", x.count(-1), -2);
        Check.due("what 11", x.count(11), -2);
        Check.due("largest int", x.count(Integer.MAX_VALUE), -2);
    }
}
