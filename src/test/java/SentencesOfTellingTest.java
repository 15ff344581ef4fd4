/** The sentences of promises 17 to 29, each with a test of its own. */
public final class SentencesOfTellingTest {
    public static void main(String[] args) {
        has();
        toldOfANumber();
        setNumbers();
        setBoats();
        setUnits();
        setPurse();
        setAtSea();
        setTolls();
        setRuns();
        setLeastAndGreatest();
        setBestUnits();
        setWhat();
        boatOfEachKind();
        boatToll();
        boatBayAndWhat();
        noBoat();
        rank();
        rankOfNone();
        at();
        atNegative();
        atTooFar();
        next();
        nextOfNone();
        nearest();
        nearestOfTwo();
        nearestOfNone();
        gapOfWhateverBays();
        gapIsTheFirst();
        gapLengths();
        noGap();
        sizeOf();
        sizeOfChecks();
        ofAll();
        ofAllPlaces();
        most();
        mostOfSeveral();
        mostOfNone();
        tollToDock();
        tollToDockReturns();
        countSets();
        countBoats();
        countNumbers();
        countTolls();
        countStatesAndText();
        countWhat();
        Check.finish();
    }

    private static final int[] SPREAD = {0, 1, 63, 64, 127, 128, 255, 256, 1000, 1791, 1792, 2046, 2047};

    private static BoatSets spread() {
        BoatSets x = Check.withSet(0);
        for (int number : SPREAD) {
            x.add(0, number);
        }
        return x;
    }

    private static void has() {
        Check.sentence("Returns 1 if the set has it, otherwise 0; UNKNOWN; BAD_VALUE.");
        BoatSets x = spread();
        x.newSet(0);
        for (int number : SPREAD) {
            Check.due("has " + number, x.has(0, number), 1);
            Check.due("the other set", x.has(1, number), 0);
        }
        int[] missing = {2, 62, 65, 126, 129, 254, 257, 999, 1001, 1790, 1793, 2045};
        for (int number : missing) {
            Check.due("has " + number, x.has(0, number), 0);
        }
        Check.due("-1", x.has(0, -1), -2);
        Check.due("2048", x.has(0, 2048), -2);
        Check.due("set 2", x.has(2, 0), -1);
        x.remove(0, 64);
        Check.due("gone", x.has(0, 64), 0);
        Check.due("its neighbour is not", x.has(0, 63), 1);
    }

    private static void toldOfANumber() {
        Check.sentence("number: 0 to 2047");
        BoatSets x = Check.withSet(9999);
        x.addRange(0, 0, 2047);
        int[] good = {0, 1, 255, 256, 2046, 2047};
        for (int number : good) {
            Check.due("has " + number, x.has(0, number), 1);
            Check.due("rank " + number, x.rank(0, number), number);
            Check.due("next " + number, x.next(0, number), number);
            Check.due("nearest " + number, x.nearest(0, number), number);
        }
        int[] bad = {-1, -256, 2048, 2049, 4096, 65536, Integer.MAX_VALUE, Integer.MIN_VALUE};
        for (int number : bad) {
            Check.due("has " + number, x.has(0, number), -2);
            Check.due("rank " + number, x.rank(0, number), -2);
            Check.due("next " + number, x.next(0, number), -2);
            Check.due("nearest " + number, x.nearest(0, number), -2);
        }
    }

    private static void setNumbers() {
        Check.sentence("0 for how many numbers it has");
        BoatSets x = Check.withSet(9999);
        x.newSet(0);
        Check.due("none", x.set(0, 0), 0);
        x.add(0, 2047);
        Check.due("one", x.set(0, 0), 1);
        x.addRange(0, 250, 260);
        Check.due("of two more bays", x.set(0, 0), 12);
        Check.due("the other set", x.set(1, 0), 0);
        x.addRange(0, 0, 2047);
        Check.due("all", x.set(0, 0), 2048);
    }

    private static void setBoats() {
        Check.sentence("1 for its boats");
        BoatSets x = Check.withSet(9999);
        Check.due("none", x.set(0, 1), 0);
        x.addRange(0, 0, 255);
        Check.due("one", x.set(0, 1), 1);
        x.add(0, 2047);
        Check.due("two", x.set(0, 1), 2);
        Check.addSingles(x, 0, 512, 17);
        Check.due("a row, bits and runs", x.set(0, 1), 3);
        x.addRange(0, 0, 2047);
        Check.due("eight", x.set(0, 1), 8);
    }

    private static void setUnits() {
        Check.sentence("2 for the units that they take");
        BoatSets x = Made.rowsAtSea(0, 0, 23);
        x.newSet(9999);
        Check.due("as they are, not as they might be", x.set(0, 2), 48);
        Check.due("without boats", x.set(1, 2), 0);
        x.addRange(1, 0, 9);
        x.add(1, 300);
        Check.addSingles(x, 1, 512, 17);
        Check.due("3, 2 and 32", x.set(1, 2), 37);
    }

    private static void setPurse() {
        Check.sentence("3 for its purse");
        BoatSets x = Check.withSet(9990);
        x.newSet(0);
        Check.due("9990", x.set(0, 3), 9990);
        x.pay(0, 9);
        Check.due("9999", x.set(0, 3), 9999);
        x.addRange(0, 0, 1);
        Check.due("3 less", x.set(0, 3), 9996);
        Check.due("the other set", x.set(1, 3), 0);
    }

    private static void setAtSea() {
        Check.sentence("4 for whether it is at sea (1, otherwise 0)");
        BoatSets x = Check.withSet(0);
        x.newSet(0);
        Check.due("at first", x.set(0, 4), 0);
        x.sail(0);
        Check.due("at sea", x.set(0, 4), 1);
        Check.due("the other set", x.set(1, 4), 0);
        x.dock(0);
        Check.due("docked", x.set(0, 4), 0);
    }

    private static void setTolls() {
        Check.sentence("5 for the tolls that it has paid");
        BoatSets x = Check.withSet(100);
        x.newSet(100);
        Check.due("none", x.set(0, 5), 0);
        x.addRange(0, 0, 2);
        Check.due("3 as numbers come", x.set(0, 5), 3);
        x.remove(0, 1);
        Check.due("4 as one goes", x.set(0, 5), 7);
        x.sail(0);
        x.addRange(0, 256, 260);
        x.dock(0);
        Check.due("3 as it docks", x.set(0, 5), 10);
        x.removeRange(0, 0, 2047);
        Check.due("2 for a row of the last one, and nothing as it goes", x.set(0, 5), 12);
        x.pay(0, 50);
        Check.due("coins that come are none", x.set(0, 5), 12);
        Check.due("the other set", x.set(1, 5), 0);
        x.undo();
        x.undo();
        x.undo();
        Check.due("before it docked", x.set(0, 5), 7);
    }

    private static void setRuns() {
        Check.sentence("6 for the runs of its boats together");
        BoatSets x = Check.withSet(9999);
        Check.due("none", x.set(0, 6), 0);
        x.addRange(0, 250, 260);
        Check.due("one in each of two bays", x.set(0, 6), 2);
        Check.addSingles(x, 0, 512, 30);
        Check.due("and 30", x.set(0, 6), 32);
        x.removeRange(0, 0, 255);
        Check.due("one less", x.set(0, 6), 31);
    }

    private static void setLeastAndGreatest() {
        Check.sentence("7 for its least number, 8 for its greatest one (7 and 8: NONE if it has none)");
        BoatSets x = Check.withSet(0);
        Check.due("no least", x.set(0, 7), -5);
        Check.due("no greatest", x.set(0, 8), -5);
        x.add(0, 1000);
        Check.due("least of one", x.set(0, 7), 1000);
        Check.due("greatest of one", x.set(0, 8), 1000);
        x.add(0, 0);
        x.add(0, 2047);
        Check.due("0", x.set(0, 7), 0);
        Check.due("2047", x.set(0, 8), 2047);
        x.remove(0, 0);
        x.remove(0, 2047);
        x.remove(0, 1000);
        Check.due("no least again", x.set(0, 7), -5);
        Check.due("no greatest again", x.set(0, 8), -5);
    }

    private static void setBestUnits() {
        Check.sentence("9 for the units that its boats would take if each was of the best kind");
        BoatSets x = Made.rowsAtSea(0, 0, 23, 300, 300);
        Check.due("no boats", Check.withSet(0).set(0, 9), 0);
        Check.due("3 and 2", x.set(0, 9), 5);
        Check.due("take 48 and 2", x.set(0, 2), 50);
        x.addRange(0, 512, 513);
        Check.due("and 3", x.set(0, 9), 8);
        BoatSets bits = Made.atSea(0, Made.singles(0, 17));
        Check.due("bits", bits.set(0, 9), 32);
        bits.remove(0, 0);
        bits.remove(0, 2);
        Check.due("a row of 15", bits.set(0, 9), 30);
    }

    private static void setWhat() {
        Check.sentence("Returns the number; UNKNOWN; BAD_VALUE.");
        BoatSets x = spread();
        for (int what = 0; what <= 9; what++) {
            Check.that("set " + what, x.set(0, what) >= 0);
        }
        int[] bad = {-1, 10, 11, Integer.MAX_VALUE, Integer.MIN_VALUE};
        for (int what : bad) {
            Check.due("set " + what, x.set(0, what), -2);
            Check.due("no set", x.set(1, what), -1);
        }
    }

    private static void boatOfEachKind() {
        Check.sentence("what: 0 for the kind of the boat, 1 for how many numbers it has, 2 for its runs, "
            + "3 for the units that it takes, 4 for the best kind");
        BoatSets x = Check.withSet(9999);
        x.addRange(0, 1792, 1900);
        Check.addSingles(x, 0, 256, 20);
        x.sail(0);
        x.addRange(0, 0, 4);
        x.add(0, 10);
        int[][] due = {{0, 6, 2, 12, 2}, {1, 20, 20, 32, 1}, {2, 109, 1, 3, 2}};
        int[] bays = {0, 1, 7};
        for (int what = 0; what <= 4; what++) {
            for (int place = 0; place < 3; place++) {
                Check.due("bay " + bays[place] + ", told " + what, x.boat(0, bays[place], what), due[place][what]);
            }
        }
        x.removeRange(0, 256, 260);
        Check.due("17 are bits best", x.boat(0, 1, 4), 1);
        x.remove(0, 262);
        Check.due("16 are a row best", x.boat(0, 1, 4), 0);
        Check.due("and bits still", x.boat(0, 1, 0), 1);
    }

    private static void boatToll() {
        Check.sentence("5 for the toll if it became one of that kind (0 if it is)");
        BoatSets row = Made.rowsAtSea(0, 0, 4, 10, 14, 256, 256);
        Check.due("runs best: 6", row.boat(0, 0, 5), 6);
        Check.due("a row that is best: 0", row.boat(0, 1, 5), 0);
        BoatSets bits = Made.atSea(0, Made.singles(0, 17));
        Check.due("bits that are best: 0", bits.boat(0, 0, 5), 0);
        bits.remove(0, 0);
        Check.due("a row of 16 best: 32", bits.boat(0, 0, 5), 32);
        bits.remove(0, 2);
        Check.due("a row of 15 best: 30", bits.boat(0, 0, 5), 30);
        BoatSets runs = Made.atSea(0, 0, 2);
        Check.due("runs that are best: 0", runs.boat(0, 0, 5), 0);
        runs.remove(0, 1);
        Check.due("a row of 2 best: 4", runs.boat(0, 0, 5), 4);
        BoatSets poor = Check.withSet(0);
        Check.addSingles(poor, 0, 0, 17);
        Check.due("bits best: 32, whatever the purse has", poor.boat(0, 0, 5), 32);
    }

    private static void boatBayAndWhat() {
        Check.sentence("bay: 0 to 7");
        BoatSets x = Check.withSet(9999);
        x.addRange(0, 0, 2047);
        for (int bay = 0; bay <= 7; bay++) {
            Check.due("bay " + bay, x.boat(0, bay, 1), 256);
        }
        int[] badBays = {-1, 8, 9, 256, Integer.MAX_VALUE, Integer.MIN_VALUE};
        for (int bay : badBays) {
            Check.due("bay " + bay, x.boat(0, bay, 1), -2);
            Check.due("no set", x.boat(1, bay, 1), -1);
        }
        int[] badWhats = {-1, 6, 7, Integer.MAX_VALUE, Integer.MIN_VALUE};
        for (int what : badWhats) {
            Check.due("what " + what, x.boat(0, 7, what), -2);
            Check.due("no set", x.boat(1, 7, what), -1);
        }
    }

    private static void noBoat() {
        Check.sentence("NONE if there is no boat.");
        BoatSets x = Check.withSet(0);
        x.newSet(0);
        x.add(0, 300);
        x.add(1, 0);
        for (int what = 0; what <= 5; what++) {
            Check.due("bay 0, " + what, x.boat(0, 0, what), -5);
            Check.that("bay 1, " + what, x.boat(0, 1, what) >= 0);
            Check.due("bay 2, " + what, x.boat(0, 2, what), -5);
            Check.due("bay 7, " + what, x.boat(0, 7, what), -5);
        }
        x.remove(0, 300);
        Check.due("bay 1, gone", x.boat(0, 1, 0), -5);
    }

    private static void rank() {
        Check.sentence("Returns how many numbers of the set are less than this one");
        BoatSets x = spread();
        for (int place = 0; place < SPREAD.length; place++) {
            Check.due("rank of " + SPREAD[place], x.rank(0, SPREAD[place]), place);
            if (SPREAD[place] < 2047) {
                Check.due("rank behind " + SPREAD[place], x.rank(0, SPREAD[place] + 1), place + 1);
            }
        }
        Check.due("of one that is not there", x.rank(0, 500), 8);
        BoatSets all = Check.withSet(9999);
        all.addRange(0, 0, 2047);
        Check.due("of 0", all.rank(0, 0), 0);
        Check.due("of 2047", all.rank(0, 2047), 2047);
    }

    private static void rankOfNone() {
        Check.sentence("Returns how many numbers of the set are less than this one");
        BoatSets x = Check.withSet(0);
        Check.due("0 of none", x.rank(0, 0), 0);
        Check.due("2047 of none", x.rank(0, 2047), 0);
        Check.due("-1", x.rank(0, -1), -2);
        Check.due("2048", x.rank(0, 2048), -2);
        Check.due("no set", x.rank(1, 0), -1);
        x.add(0, 2047);
        Check.due("2047 itself", x.rank(0, 2047), 0);
    }

    private static void at() {
        Check.sentence("place: a place among its numbers from the least on, from 0");
        BoatSets x = spread();
        x.newSet(0);
        x.add(1, 5);
        for (int place = 0; place < SPREAD.length; place++) {
            Check.due("at " + place, x.at(0, place), SPREAD[place]);
        }
        Check.due("of the other set", x.at(1, 0), 5);
        BoatSets all = Check.withSet(9999);
        all.addRange(0, 0, 2047);
        for (int place = 0; place < 2048; place += 5) {
            Check.due("at " + place, all.at(0, place), place);
        }
        Check.due("the last one", all.at(0, 2047), 2047);
    }

    private static void atNegative() {
        Check.sentence("BAD_VALUE if place is negative");
        BoatSets x = spread();
        Check.due("-1", x.at(0, -1), -2);
        Check.due("the least int", x.at(0, Integer.MIN_VALUE), -2);
        Check.due("no set", x.at(1, -1), -1);
        Check.due("of an empty set", Check.withSet(0).at(0, -1), -2);
    }

    private static void atTooFar() {
        Check.sentence("NONE if there are not so many.");
        BoatSets x = spread();
        Check.due("the last one", x.at(0, SPREAD.length - 1), 2047);
        Check.due("one more", x.at(0, SPREAD.length), -5);
        Check.due("2048", x.at(0, 2048), -5);
        Check.due("the largest int", x.at(0, Integer.MAX_VALUE), -5);
        Check.due("of an empty set", Check.withSet(0).at(0, 0), -5);
        BoatSets all = Check.withSet(9999);
        all.addRange(0, 0, 2047);
        Check.due("of all", all.at(0, 2048), -5);
    }

    private static void next() {
        Check.sentence("Returns the least number of the set that is not less than this one");
        BoatSets x = spread();
        for (int place = 0; place < SPREAD.length; place++) {
            Check.due("itself: " + SPREAD[place], x.next(0, SPREAD[place]), SPREAD[place]);
            if (place > 0) {
                Check.due("behind " + SPREAD[place - 1], x.next(0, SPREAD[place - 1] + 1), SPREAD[place]);
            }
        }
        Check.due("far away", x.next(0, 300), 1000);
        BoatSets last = Check.withSet(0);
        last.add(0, 2047);
        Check.due("from one end to the other", last.next(0, 0), 2047);
    }

    private static void nextOfNone() {
        Check.sentence("NONE if there is none.");
        BoatSets x = Check.withSet(0);
        Check.due("of an empty set", x.next(0, 0), -5);
        x.add(0, 1000);
        Check.due("the last one", x.next(0, 1000), 1000);
        Check.due("behind it", x.next(0, 1001), -5);
        Check.due("at the end", x.next(0, 2047), -5);
        Check.due("beyond the end", x.next(0, 2048), -2);
        Check.due("ahead of the start", x.next(0, -1), -2);
        Check.due("no set", x.next(1, 0), -1);
    }

    private static void nearest() {
        Check.sentence("Returns the number of the set that is nearest to this one");
        BoatSets x = Check.withSet(0);
        x.add(0, 1000);
        Check.due("one alone, from 0", x.nearest(0, 0), 1000);
        Check.due("one alone, from 2047", x.nearest(0, 2047), 1000);
        Check.due("itself", x.nearest(0, 1000), 1000);
        x.add(0, 1007);
        x.add(0, 0);
        x.add(0, 2047);
        Check.due("nearer below", x.nearest(0, 1003), 1000);
        Check.due("nearer above", x.nearest(0, 1004), 1007);
        Check.due("beside one", x.nearest(0, 1008), 1007);
        Check.due("over the bays, below", x.nearest(0, 499), 0);
        Check.due("over the bays, above", x.nearest(0, 501), 1000);
        Check.due("0 itself", x.nearest(0, 0), 0);
        Check.due("2047 itself", x.nearest(0, 2047), 2047);
        Check.due("beside 2047", x.nearest(0, 2046), 2047);
        Check.due("of bay 0 and 1", spread().nearest(0, 257), 256);
    }

    private static void nearestOfTwo() {
        Check.sentence("(of two the lower one)");
        BoatSets x = Check.withSet(0);
        x.add(0, 2);
        x.add(0, 4);
        x.add(0, 1000);
        Check.due("one apart", x.nearest(0, 3), 2);
        Check.due("498 apart", x.nearest(0, 502), 4);
        Check.due("one more", x.nearest(0, 503), 1000);
        Check.due("one less", x.nearest(0, 501), 4);
    }

    private static void nearestOfNone() {
        Check.sentence("NONE if the set has none.");
        BoatSets x = Check.withSet(0);
        x.newSet(0);
        x.add(1, 5);
        Check.due("none", x.nearest(0, 5), -5);
        Check.due("-1", x.nearest(0, -1), -2);
        Check.due("2048", x.nearest(0, 2048), -2);
        Check.due("no set", x.nearest(2, 5), -1);
        Check.due("one", x.nearest(1, 2047), 5);
    }

    private static void gapOfWhateverBays() {
        Check.sentence("so many numbers in a row, of whatever bays, none of which it has");
        BoatSets x = Check.withSet(0);
        x.add(0, 250);
        x.add(0, 1100);
        Check.due("250 in bay 0", x.gap(0, 250), 0);
        Check.due("251, over bays 0 to 4", x.gap(0, 251), 251);
        Check.due("849, all of them", x.gap(0, 849), 251);
        Check.due("850, up to the end", x.gap(0, 850), 1101);
        Check.due("947, all up to the end", x.gap(0, 947), 1101);
        x.add(0, 0);
        Check.due("249", x.gap(0, 249), 1);
        Check.due("250", x.gap(0, 250), 251);
    }

    private static void gapIsTheFirst() {
        Check.sentence("Finds the first gap of a set");
        BoatSets x = Check.withSet(9999);
        x.addRange(0, 0, 2047);
        x.remove(0, 2047);
        Check.due("the last number", x.gap(0, 1), 2047);
        x.removeRange(0, 1000, 1001);
        Check.due("one of two", x.gap(0, 1), 1000);
        Check.due("two", x.gap(0, 2), 1000);
        x.remove(0, 0);
        Check.due("0", x.gap(0, 1), 0);
        Check.due("not 0", x.gap(0, 2), 1000);
        x.removeRange(0, 600, 602);
        Check.due("the first that is long enough", x.gap(0, 2), 600);
    }

    private static void gapLengths() {
        Check.sentence("length: 1 to 2048");
        BoatSets x = Check.withSet(0);
        Check.due("1", x.gap(0, 1), 0);
        Check.due("2048", x.gap(0, 2048), 0);
        int[] bad = {0, -1, 2049, 4096, Integer.MAX_VALUE, Integer.MIN_VALUE};
        for (int length : bad) {
            Check.due("length " + length, x.gap(0, length), -2);
            Check.due("no set", x.gap(1, length), -1);
        }
    }

    private static void noGap() {
        Check.sentence("NONE if there is none.");
        BoatSets x = Check.withSet(9999);
        x.addRange(0, 0, 2047);
        Check.due("of all", x.gap(0, 1), -5);
        x.removeRange(0, 2046, 2047);
        Check.due("two at the end", x.gap(0, 2), 2046);
        Check.due("three", x.gap(0, 3), -5);
        BoatSets y = Check.withSet(0);
        y.add(0, 0);
        Check.due("2048 of 2047", y.gap(0, 2048), -5);
        Check.due("2047", y.gap(0, 2047), 1);
        BoatSets z = Check.withSet(0);
        z.add(0, 2047);
        Check.due("2048 of 2047", z.gap(0, 2048), -5);
        Check.due("2047", z.gap(0, 2047), 0);
    }

    private static void sizeOf() {
        Check.sentence("Returns how many numbers both would give");
        BoatSets x = Check.withSet(9999);
        x.newSet(9999);
        x.newSet(0);
        x.addRange(0, 200, 299);
        x.addRange(1, 250, 309);
        x.add(0, 0);
        x.add(1, 2047);
        int[] due = {112, 50, 51, 62};
        int[] turned = {112, 50, 11, 62};
        int[] itself = {101, 101, 0, 0};
        int[] none = {101, 0, 101, 101};
        int[] ofNone = {101, 0, 0, 101};
        for (int how = 0; how <= 3; how++) {
            Check.due("how " + how, x.sizeOf(how, 0, 1), due[how]);
            Check.due("turned, how " + how, x.sizeOf(how, 1, 0), turned[how]);
            Check.due("itself, how " + how, x.sizeOf(how, 0, 0), itself[how]);
            Check.due("with none, how " + how, x.sizeOf(how, 0, 2), none[how]);
            Check.due("of none, how " + how, x.sizeOf(how, 2, 0), ofNone[how]);
        }
        x.sail(0);
        x.sail(1);
        Check.due("at sea too", x.sizeOf(0, 0, 1), 112);
        Check.due("no set is changed", x.set(0, 0), 101);
    }

    private static void sizeOfChecks() {
        Check.sentence("UNKNOWN (set or other); BAD_VALUE.");
        BoatSets x = Check.withSet(0);
        Check.due("set 1", x.sizeOf(0, 1, 0), -1);
        Check.due("other 1", x.sizeOf(0, 0, 1), -1);
        Check.due("set -1", x.sizeOf(0, -1, 0), -1);
        Check.due("other -1", x.sizeOf(0, 0, -1), -1);
        int[] bad = {-1, 4, Integer.MAX_VALUE, Integer.MIN_VALUE};
        for (int how : bad) {
            Check.due("how " + how, x.sizeOf(how, 0, 0), -2);
            Check.due("other 1, how " + how, x.sizeOf(how, 0, 1), -1);
        }
    }

    private static void ofAll() {
        Check.sentence("a place among the numbers of all sets together, from the least on, from 0; "
            + "a number counts as often as there are sets that have it");
        BoatSets x = Check.withSet(0);
        for (int set = 1; set < 6; set++) {
            x.newSet(0);
        }
        for (int set = 0; set < 6; set++) {
            x.add(set, 1000);
        }
        x.add(3, 0);
        x.add(5, 0);
        x.add(0, 2047);
        x.sail(5);
        int[] due = {0, 0, 1000, 1000, 1000, 1000, 1000, 1000, 2047, -5};
        for (int place = 0; place < due.length; place++) {
            Check.due("place " + place, x.ofAll(place), due[place]);
        }
    }

    private static void ofAllPlaces() {
        Check.sentence("BAD_VALUE if place is negative; NONE if there are not so many.");
        BoatSets x = new BoatSets();
        Check.due("no sets", x.ofAll(0), -5);
        Check.due("no sets, -1", x.ofAll(-1), -2);
        x.newSet(9999);
        x.newSet(9999);
        Check.due("no numbers", x.ofAll(0), -5);
        x.addRange(0, 0, 2047);
        x.addRange(1, 0, 2047);
        Check.due("the last of all", x.ofAll(4095), 2047);
        Check.due("one more", x.ofAll(4096), -5);
        Check.due("the largest int", x.ofAll(Integer.MAX_VALUE), -5);
        Check.due("the least int", x.ofAll(Integer.MIN_VALUE), -2);
        Check.due("2001", x.ofAll(4003), 2001);
    }

    private static void most() {
        Check.sentence("Tells the number that the most sets have.");
        BoatSets x = Check.withSet(0);
        for (int set = 1; set < 6; set++) {
            x.newSet(0);
        }
        x.add(0, 2047);
        Check.due("one has it", x.most(), 2047);
        for (int set = 0; set < 5; set++) {
            x.add(set, 1000 + set);
            x.add(set, 700);
        }
        Check.due("five have it", x.most(), 700);
        for (int set = 0; set < 6; set++) {
            x.add(set, 1500);
        }
        Check.due("six have it", x.most(), 1500);
        x.remove(0, 1500);
        x.remove(1, 1500);
        Check.due("four have that", x.most(), 700);
    }

    private static void mostOfSeveral() {
        Check.sentence("Returns the number, the least one of several");
        BoatSets x = Check.withSet(0);
        x.newSet(0);
        x.add(0, 300);
        x.add(1, 900);
        Check.due("one each", x.most(), 300);
        x.add(1, 0);
        Check.due("0", x.most(), 0);
        x.add(0, 900);
        x.add(1, 300);
        Check.due("two each", x.most(), 300);
        x.add(0, 299);
        Check.due("299 in one alone", x.most(), 300);
        x.add(1, 299);
        Check.due("299 in both", x.most(), 299);
    }

    private static void mostOfNone() {
        Check.sentence("NONE if no set has any.");
        BoatSets x = new BoatSets();
        Check.due("no sets", x.most(), -5);
        x.newSet(0);
        x.newSet(0);
        Check.due("no numbers", x.most(), -5);
        x.add(1, 0);
        Check.due("0", x.most(), 0);
        x.remove(1, 0);
        Check.due("gone", x.most(), -5);
    }

    private static void tollToDock() {
        Check.sentence("Tells what dock() would pay for a set now.");
        for (int coins = 1; coins <= 40; coins++) {
            BoatSets told = wanting(coins);
            Check.due("coins " + coins, told.tollToDock(0), wanting(coins).dock(0));
            Check.due("the purse stays", told.set(0, 3), coins);
            Check.due("it stays at sea", told.set(0, 4), 1);
        }
        BoatSets harbour = Check.withSet(0);
        harbour.addRange(0, 0, 4);
        harbour.pay(0, 2);
        Check.due("in the harbour, too few coins", harbour.tollToDock(0), 0);
        harbour.pay(0, 1);
        Check.due("in the harbour", harbour.tollToDock(0), 3);
        Check.due("it stays a row", harbour.boat(0, 0, 0), 0);
        Check.due("now: that is no sum of what was paid", harbour.dock(0), 3);
        Check.due("nothing then", harbour.tollToDock(0), 0);
    }

    /** Rows that save 24 for 24, 17 for 3, and 12 for 12. */
    private static BoatSets wanting(int coins) {
        BoatSets x = Made.rowsAtSea(0, 768, 777);
        Made.addAll(x, 0, Made.runs(256, 8, 3, 1));
        Made.addAll(x, 0, Made.runs(1280, 4, 3, 1));
        x.pay(0, coins);
        return x;
    }

    private static void tollToDockReturns() {
        Check.sentence("Returns the tolls; UNKNOWN.");
        Check.due("all three: 39", wanting(39).tollToDock(0), 39);
        Check.due("not the last one: 27", wanting(38).tollToDock(0), 27);
        Check.due("the cheap one: 3", wanting(14).tollToDock(0), 3);
        Check.due("none", wanting(2).tollToDock(0), 0);
        Check.due("no set 1", wanting(2).tollToDock(1), -1);
        Check.due("no set -1", wanting(2).tollToDock(-1), -1);
        Check.due("no boats", Check.withSet(9).tollToDock(0), 0);
    }

    private static void countSets() {
        Check.sentence("0 for the number of sets, 1 for those at sea");
        BoatSets x = new BoatSets();
        for (int sets = 0; sets <= 6; sets++) {
            Check.due("sets", x.count(0), sets);
            Check.due("at sea", x.count(1), sets);
            x.newSet(0);
            x.sail(sets);
        }
        x.dock(3);
        Check.due("five at sea", x.count(1), 5);
        Check.due("of six", x.count(0), 6);
    }

    private static void countBoats() {
        Check.sentence("2 to 4 for boats of the kinds 0 to 2, 5 for the units that all boats take");
        BoatSets x = Check.withSet(9999);
        x.newSet(9999);
        Check.addSingles(x, 0, 0, 17);
        x.add(0, 300);
        x.add(0, 600);
        x.add(1, 0);
        x.addRange(1, 256, 767);
        Check.due("rows", x.count(2), 3);
        Check.due("bits", x.count(3), 1);
        Check.due("runs", x.count(4), 2);
        Check.due("32, 2, 2 and 2, 3, 3", x.count(5), 44);
        x.remove(0, 300);
        Check.due("a row less", x.count(2), 2);
        Check.due("2 units less", x.count(5), 42);
    }

    private static void countNumbers() {
        Check.sentence("6 for all numbers of all sets (as often as sets have them), 7 for different ones");
        BoatSets x = Check.withSet(9999);
        x.newSet(9999);
        x.newSet(0);
        x.addRange(0, 0, 299);
        x.addRange(1, 200, 399);
        x.add(2, 0);
        x.add(2, 2047);
        Check.due("300, 200 and 2", x.count(6), 502);
        Check.due("0 to 399 and 2047", x.count(7), 401);
        x.addRange(0, 0, 2047);
        Check.due("2048, 200 and 2", x.count(6), 2250);
        Check.due("all", x.count(7), 2048);
    }

    private static void countTolls() {
        Check.sentence("8 for all tolls that were paid");
        BoatSets x = Check.withSet(100);
        x.newSet(100);
        x.addRange(0, 0, 1);
        x.addRange(1, 0, 1);
        x.addRange(1, 300, 301);
        Check.due("3 and 6", x.count(8), 9);
        x.removeRange(0, 0, 1);
        Check.due("2 for a row of the last one, and nothing as it goes", x.count(8), 11);
        x.undo();
        x.undo();
        Check.due("one is undone", x.count(8), 6);
    }

    private static void countStatesAndText() {
        Check.sentence("9 for the states in the history, 10 for the length of the text");
        BoatSets x = new BoatSets();
        for (int i = 0; i <= 5; i++) {
            Check.due("states", x.count(9), Math.min(i, 4));
            x.newSet(0);
        }
        x.undo();
        Check.due("one less", x.count(9), 3);
        for (int length = 0; length <= 60; length++) {
            Check.due("length", x.count(10), length);
            x.type('x');
        }
        Check.due("60 at most", x.count(10), 60);
        x.clearText();
        Check.due("none", x.count(10), 0);
    }

    private static void countWhat() {
        Check.sentence("Returns the number; BAD_VALUE.");
        BoatSets x = spread();
        for (int what = 0; what <= 10; what++) {
            Check.that("count " + what, x.count(what) >= 0);
        }
        int[] bad = {-1, 11, 12, Integer.MAX_VALUE, Integer.MIN_VALUE};
        for (int what : bad) {
            Check.due("count " + what, x.count(what), -2);
            Check.due("count " + what + " of nothing", new BoatSets().count(what), -2);
        }
    }
}
