import java.util.function.Consumer;
import java.util.function.ToIntBiFunction;
import java.util.function.ToIntFunction;

/** The sentences of HISTORY and ERRORS and of promises 14 to 16, each with a test of its own. */
public final class SentencesOfStatesTest {
    public static void main(String[] args) {
        lastCallsHold();
        fourStatesAtMost();
        oldestIsDropped();
        undoRestoresTheLatest();
        actsRecord();
        actsThatChangeNothingRecord();
        whatIsNoActRecordsNothing();
        snapshotEmptyAtFirst();
        oneSnapshot();
        stateHasNoText();
        stateHasNoHistory();
        stateHasNoSnapshot();
        stateIsAllElse();
        unknownSets();
        badValues();
        orderOfTheChecks();
        noneIfNoErrorApplies();
        errorsOfSetsChangeNothing();
        errorsOfNumbersChangeNothing();
        noneChangesNothing();
        halfWayErrorsChangeNothing();
        errorsOfTextsAndHistoryChangeNothing();
        whatIsToldChangesNothing();
        constants();
        undoTellsTheStatesLeft();
        undoOfAnEmptyHistory();
        keepTellsTheSets();
        keepInPlaceOfTheOneBefore();
        restoreKeepsTheSnapshot();
        restoreIsAnAct();
        restoreWithoutASnapshot();
        Check.finish();
    }

    /**
     * Set 0: runs in bay 0 and a row in bay 1, no coins but 2; set 1: eight runs, at sea; a right
     * text; a snapshot that is older than the state; four states.
     */
    private static void makeRich(BoatSets x) {
        x.newSet(3);
        x.newSet(9999);
        x.addRange(0, 254, 257);
        Made.addAll(x, 1, Made.eightRuns());
        x.keep();
        x.add(0, 300);
        x.pay(0, 2);
        x.sail(1);
        x.add(1, 4);
        Check.write(x, "10-12,500");
    }

    /** The same, but with one state in the history. */
    private static void makeRichAndNew(BoatSets x) {
        makeRich(x);
        Made.shortenHistory(x);
    }

    private static void lastCallsHold() {
        Check.sentence("An object is used for at most 512 calls after it has been made");
        BoatSets numbers = Check.withSet(9999);
        for (int i = 0; i < 510; i++) {
            Check.due("call " + (i + 2), numbers.add(0, 4 * i), i % 64 < 16 ? 0 : 1);
        }
        Check.due("the 512th call", numbers.set(0, 0), 510);
        BoatSets acts = Check.withSet(0);
        for (int i = 0; i < 255; i++) {
            Check.due("add", acts.add(0, i), 0);
            Check.due("undo", acts.undo(), 1);
        }
        Check.due("the 512th call", acts.keep(), 1);
        BoatSets text = new BoatSets();
        for (int i = 1; i <= 511; i++) {
            Check.due("type", text.type('1'), i <= 60 ? i : -3);
        }
        Check.due("the 512th call", text.clearText(), 60);
    }

    private static BoatSets withNumbers(int size) {
        BoatSets x = Check.withSet(0);
        for (int number = 0; number < size; number++) {
            x.add(0, number);
        }
        return x;
    }

    private static void fourStatesAtMost() {
        Check.sentence("A history of at most 4 states is kept");
        BoatSets x = new BoatSets();
        Check.due("none at first", x.count(9), 0);
        x.newSet(0);
        Check.due("one", x.count(9), 1);
        for (int number = 0; number < 8; number++) {
            x.add(0, number);
            Check.due("after " + (number + 2), x.count(9), Math.min(number + 2, 4));
        }
        for (int left = 3; left >= 0; left--) {
            Check.due("undo", x.undo(), left);
            Check.due("left", x.count(9), left);
        }
        Check.due("no fifth one", x.undo(), -5);
        Check.due("four numbers are left", x.set(0, 0), 4);
    }

    private static void undoAll(BoatSets x) {
        for (int i = 0; i < 4; i++) {
            x.undo();
        }
    }

    private static void oldestIsDropped() {
        Check.sentence("when one more is recorded, the oldest one is dropped");
        BoatSets four = withNumbers(3);
        undoAll(four);
        Check.due("four acts: none is dropped", four.count(0), 0);
        BoatSets five = withNumbers(4);
        undoAll(five);
        Check.due("five: the one without sets is", five.count(0), 1);
        Check.due("the next one is not", five.set(0, 0), 0);
        BoatSets nine = withNumbers(8);
        Check.due("the latest", nine.undo(), 3);
        Check.due("7", nine.set(0, 0), 7);
        nine.undo();
        nine.undo();
        Check.due("the last one", nine.undo(), 0);
        Check.due("4", nine.set(0, 0), 4);
    }

    private static void undoRestoresTheLatest() {
        Check.sentence("undo() removes and restores the latest one.");
        BoatSets x = withNumbers(3);
        x.undo();
        Check.due("two numbers", x.set(0, 0), 2);
        Check.due("the third is gone", x.has(0, 2), 0);
        Check.due("it is removed", x.count(9), 3);
        x.add(0, 100);
        Check.due("one is recorded", x.count(9), 4);
        x.undo();
        Check.due("100 is gone", x.has(0, 100), 0);
        Check.due("two numbers again", x.set(0, 0), 2);
        x.undo();
        Check.due("one number", x.set(0, 0), 1);
        x.undo();
        Check.due("none", x.set(0, 0), 0);
        x.undo();
        Check.due("no set", x.set(0, 0), -1);
    }

    private static void act(String name, ToIntFunction<BoatSets> call, int due) {
        Twins.recordsOne(name, SentencesOfStatesTest::makeRichAndNew, call, due);
    }

    private static void actsRecord() {
        Check.sentence("Each call of a method that is described as an act, and returns no error and not NONE, "
            + "records the state that was before it.");
        act("newSet", x -> x.newSet(7), 2);
        act("pay", x -> x.pay(0, 5), 7);
        act("sail", x -> x.sail(0), 2);
        act("dock", x -> x.dock(1), 0);
        act("add", x -> x.add(0, 301), 0);
        act("remove", x -> x.remove(0, 300), 2);
        act("addRange", x -> x.addRange(0, 700, 702), 3);
        act("removeRange", x -> x.removeRange(0, 254, 256), 3);
        act("combine", x -> x.combine(0, 0, 0, 1), 38);
        act("readRanges", x -> x.readRanges(0), 4);
        Twins.recordsOne("restore", SentencesOfStatesTest::makeChangedAfterKeep, x -> x.restore(), 2);
        Twins.recordsOne("addRange with a toll", x -> x.newSet(9), x -> x.addRange(0, 0, 4), 5);
        Twins.recordsOne("removeRange with a toll", SentencesOfStatesTest::makeRunsOfFive, x -> x.removeRange(0, 1, 2), 2);
        Twins.recordsOne("dock with a toll", SentencesOfStatesTest::makeRowAtSea, x -> x.dock(0), 3);
    }

    private static void makeChangedAfterKeep(BoatSets x) {
        makeRichAndNew(x);
        x.remove(0, 300);
    }

    private static void makeRunsOfFive(BoatSets x) {
        x.newSet(9);
        x.addRange(0, 0, 4);
    }

    private static void makeRowAtSea(BoatSets x) {
        x.newSet(9);
        x.sail(0);
        x.addRange(0, 0, 4);
    }

    private static void actsThatChangeNothingRecord() {
        Check.sentence("Each call of a method that is described as an act, and returns no error and not NONE, "
            + "records the state that was before it.");
        act("dock of a set in the harbour whose boats are of the best kind", x -> x.dock(0), 0);
        Twins.recordsOne("dock of a set without boats", x -> x.newSet(0), x -> x.dock(0), 0);
        act("combine of a set with itself", x -> x.combine(1, 0, 0, 0), 5);
        Twins.recordsOne("combine of sets without numbers", x -> x.newSet(0), x -> x.combine(3, 0, 0, 0), 0);
        act("restore of the state that is", x -> x.restore(), 2);
        Twins.recordsOne("restore of a harbour without sets", x -> x.keep(), x -> x.restore(), 0);
    }

    private static void whatIsNoActRecordsNothing() {
        Check.sentence("Each call of a method that is described as an act, and returns no error and not NONE, "
            + "records the state that was before it.");
        BoatSets x = withNumbers(1);
        x.type('1');
        Check.due("type is no act", x.count(9), 2);
        x.clearText();
        Check.due("clearText is none", x.count(9), 2);
        x.keep();
        Check.due("keep is none", x.count(9), 2);
        Check.due("undo is none", x.undo(), 1);
        Check.due("that was the add", x.set(0, 0), 0);
        Check.due("undo again", x.undo(), 0);
        Check.due("that was the newSet", x.count(0), 0);
    }

    private static void snapshotEmptyAtFirst() {
        Check.sentence("There is one snapshot, empty at first.");
        BoatSets x = new BoatSets();
        Check.due("empty", x.restore(), -5);
        x.newSet(0);
        x.add(0, 5);
        Check.due("acts take none", x.restore(), -5);
        x.undo();
        Check.due("undo takes none", x.restore(), -5);
        x.keep();
        Check.due("keep does", x.restore(), 1);
    }

    private static void oneSnapshot() {
        Check.sentence("There is one snapshot, empty at first.");
        BoatSets x = withNumbers(1);
        x.keep();
        x.add(0, 1);
        x.keep();
        x.add(0, 2);
        x.restore();
        Check.due("the later one", x.set(0, 0), 2);
        x.restore();
        Check.due("the one before it is gone", x.set(0, 0), 2);
    }

    private static void stateHasNoText() {
        Check.sentence("A state is everything but the text, the history and the snapshot.");
        BoatSets x = withNumbers(1);
        Check.write(x, "5");
        x.keep();
        x.add(0, 100);
        Check.write(x, "6,7");
        x.undo();
        Check.due("undo leaves its length", x.count(10), 3);
        x.restore();
        Check.due("restore leaves its length", x.count(10), 3);
        Check.due("and what it says", x.readRanges(0), 2);
        Check.due("6", x.has(0, 6), 1);
        Check.due("7", x.has(0, 7), 1);
        Check.due("not 5", x.has(0, 5), 0);
        x.clearText();
        x.undo();
        Check.due("undo brings no text back", x.count(10), 0);
    }

    private static void stateHasNoHistory() {
        Check.sentence("A state is everything but the text, the history and the snapshot.");
        BoatSets x = Check.withSet(0);
        x.keep();
        x.add(0, 5);
        Check.due("restore", x.restore(), 1);
        Check.due("the history goes on", x.count(9), 3);
        Check.due("undo of the restore", x.undo(), 2);
        Check.due("5 is there", x.has(0, 5), 1);
        Check.due("undo of the add", x.undo(), 1);
        Check.due("5 is not there", x.has(0, 5), 0);
        Check.due("undo of the newSet", x.undo(), 0);
        Check.due("no set", x.count(0), 0);
        Check.due("restore behind an empty history", x.restore(), 1);
        Check.due("one state", x.count(9), 1);
    }

    private static void stateHasNoSnapshot() {
        Check.sentence("A state is everything but the text, the history and the snapshot.");
        BoatSets x = withNumbers(1);
        x.keep();
        undoAll(x);
        Check.due("undo leaves the snapshot", x.restore(), 1);
        Check.due("with its number", x.set(0, 0), 1);
        x.add(0, 1);
        x.keep();
        x.undo();
        x.restore();
        Check.due("undo brings no older one back", x.set(0, 0), 2);
        x.undo();
        x.restore();
        Check.due("nor does restore", x.set(0, 0), 2);
    }

    private static void changeAll(BoatSets x) {
        x.dock(1);
        x.newSet(9);
        x.pay(0, 100);
        x.addRange(0, 301, 310);
        x.removeRange(1, 0, 9);
        x.combine(3, 2, 0, 1);
        x.sail(0);
        x.add(1, 2047);
    }

    private static void stateIsAllElse() {
        Check.sentence("A state is everything but the text, the history and the snapshot.");
        BoatSets one = new BoatSets();
        makeRich(one);
        BoatSets other = new BoatSets();
        makeRich(other);
        other.keep();
        changeAll(other);
        Check.that("all is changed", !Told.of(one).equals(Told.of(other)));
        other.restore();
        Check.that("restore brings all back", Told.of(one).equals(Told.of(other)));
        BoatSets undone = new BoatSets();
        makeRich(undone);
        changeAll(undone);
        undoAll(undone);
        BoatSets half = new BoatSets();
        makeRich(half);
        half.dock(1);
        half.newSet(9);
        half.pay(0, 100);
        half.addRange(0, 301, 310);
        for (int set = 0; set < 3; set++) {
            for (int what = 0; what <= 9; what++) {
                Check.due("undo of four, set " + set + ", told " + what, undone.set(set, what), half.set(set, what));
            }
        }
        Check.due("none left", undone.count(9), 0);
    }

    private static void unknown(String method, ToIntBiFunction<BoatSets, Integer> call) {
        int[] none = {0, 1, -1, 6, Integer.MAX_VALUE, Integer.MIN_VALUE};
        for (int set : none) {
            Check.due(method + " of set " + set + " of none", call.applyAsInt(new BoatSets(), set), -1);
        }
        int[] unknown = {2, -1, 5, 6, 7, Integer.MAX_VALUE, Integer.MIN_VALUE};
        for (int set : unknown) {
            BoatSets x = Check.withSet(0);
            x.newSet(0);
            Check.due(method + " of set " + set + " of two", call.applyAsInt(x, set), -1);
        }
        BoatSets two = Check.withSet(0);
        two.newSet(0);
        Check.that(method + " of set 1 of two", call.applyAsInt(two, 1) != -1);
        BoatSets six = Check.withSet(0);
        for (int i = 0; i < 5; i++) {
            six.newSet(0);
        }
        Check.due(method + " of set 6 of six", call.applyAsInt(six, 6), -1);
        Check.that(method + " of set 5 of six", call.applyAsInt(six, 5) != -1);
        six.undo();
        six.undo();
        Check.due(method + " of a set that was undone", call.applyAsInt(six, 5), -1);
    }

    private static void unknownSets() {
        Check.sentence("UNKNOWN = -1: There is no such set.");
        unknown("pay", (x, set) -> x.pay(set, 1));
        unknown("sail", BoatSets::sail);
        unknown("dock", BoatSets::dock);
        unknown("add", (x, set) -> x.add(set, 0));
        unknown("remove", (x, set) -> x.remove(set, 0));
        unknown("addRange", (x, set) -> x.addRange(set, 0, 1));
        unknown("removeRange", (x, set) -> x.removeRange(set, 0, 1));
        unknown("combine into", (x, set) -> x.combine(0, set, 0, 0));
        unknown("combine set", (x, set) -> x.combine(0, 0, set, 0));
        unknown("combine other", (x, set) -> x.combine(0, 0, 0, set));
        unknown("readRanges", BoatSets::readRanges);
        unknown("has", (x, set) -> x.has(set, 0));
        unknown("set", (x, set) -> x.set(set, 0));
        unknown("boat", (x, set) -> x.boat(set, 0, 0));
        unknown("rank", (x, set) -> x.rank(set, 0));
        unknown("at", (x, set) -> x.at(set, 0));
        unknown("next", (x, set) -> x.next(set, 0));
        unknown("nearest", (x, set) -> x.nearest(set, 0));
        unknown("gap", (x, set) -> x.gap(set, 1));
        unknown("sizeOf set", (x, set) -> x.sizeOf(0, set, 0));
        unknown("sizeOf other", (x, set) -> x.sizeOf(0, 0, set));
        unknown("tollToDock", BoatSets::tollToDock);
    }

    /** From least to most is in range, all else is not; the object has one set without coins, and 7 is in it. */
    private static void inRange(String method, int least, int most, ToIntBiFunction<BoatSets, Integer> call) {
        int[] bad = {least - 1, Integer.MIN_VALUE, least - 100};
        for (int value : bad) {
            Check.due(method + " " + value, call.applyAsInt(withSeven(), value), -2);
        }
        if (most < Integer.MAX_VALUE) {
            int[] tooLarge = {most + 1, Integer.MAX_VALUE, most + 65536};
            for (int value : tooLarge) {
                Check.due(method + " " + value, call.applyAsInt(withSeven(), value), -2);
            }
        }
        Check.that(method + " " + least, call.applyAsInt(withSeven(), least) != -2);
        Check.that(method + " " + most, call.applyAsInt(withSeven(), most) != -2);
    }

    private static BoatSets withSeven() {
        BoatSets x = Check.withSet(0);
        x.add(0, 7);
        return x;
    }

    private static void badValues() {
        Check.sentence("BAD_VALUE = -2: Another argument is out of range.");
        inRange("newSet", 0, 9999, BoatSets::newSet);
        inRange("pay", 1, 9999, (x, coins) -> x.pay(0, coins));
        inRange("add", 0, 2047, (x, number) -> x.add(0, number));
        inRange("remove", 0, 2047, (x, number) -> x.remove(0, number));
        inRange("addRange from", 0, 2047, (x, from) -> x.addRange(0, from, 2047));
        inRange("addRange to", 5, 2047, (x, to) -> x.addRange(0, 5, to));
        inRange("removeRange from", 0, 2047, (x, from) -> x.removeRange(0, from, 2047));
        inRange("removeRange to", 5, 2047, (x, to) -> x.removeRange(0, 5, to));
        inRange("combine", 0, 3, (x, how) -> x.combine(how, 0, 0, 0));
        inRange("has", 0, 2047, (x, number) -> x.has(0, number));
        inRange("set", 0, 9, (x, what) -> x.set(0, what));
        inRange("boat bay", 0, 7, (x, bay) -> x.boat(0, bay, 0));
        inRange("boat what", 0, 5, (x, what) -> x.boat(0, 0, what));
        inRange("boat what where there is no boat", 0, 5, (x, what) -> x.boat(0, 1, what));
        inRange("rank", 0, 2047, (x, number) -> x.rank(0, number));
        inRange("at", 0, Integer.MAX_VALUE, (x, place) -> x.at(0, place));
        inRange("next", 0, 2047, (x, number) -> x.next(0, number));
        inRange("nearest", 0, 2047, (x, number) -> x.nearest(0, number));
        inRange("gap", 1, 2048, (x, length) -> x.gap(0, length));
        inRange("sizeOf", 0, 3, (x, how) -> x.sizeOf(how, 0, 0));
        inRange("ofAll", 0, Integer.MAX_VALUE, BoatSets::ofAll);
        inRange("count", 0, 10, BoatSets::count);
    }

    private static void orderOfTheChecks() {
        Check.sentence("Where several errors can apply, the order of the @return line is the order of the checks.");
        BoatSets full = Check.withSet(9999);
        for (int i = 0; i < 5; i++) {
            full.newSet(0);
        }
        Check.due("newSet: BAD_VALUE, FULL", full.newSet(10000), -2);
        Check.due("pay: UNKNOWN, BAD_VALUE", full.pay(6, 0), -1);
        Check.due("pay: BAD_VALUE, FULL", full.pay(0, 10000), -2);
        BoatSets x = Made.rowsAtSea(0, 0, 23);
        Check.due("add: UNKNOWN, BAD_VALUE", x.add(1, 2048), -1);
        Check.due("remove: UNKNOWN, BAD_VALUE", x.remove(1, -1), -1);
        Check.due("addRange: UNKNOWN, BAD_VALUE", x.addRange(1, 1, 0), -1);
        Check.due("addRange: BAD_VALUE, FULL", x.addRange(0, 0, 2048), -2);
        Check.due("removeRange: UNKNOWN, BAD_VALUE", x.removeRange(1, 1, 0), -1);
        Check.due("removeRange: BAD_VALUE, FULL", Made.atSea(0, Made.eightRuns()).removeRange(0, 1, 2048), -2);
        Check.due("combine: UNKNOWN (into), BAD_VALUE", x.combine(4, 1, 0, 0), -1);
        Check.due("combine: UNKNOWN (set), BAD_VALUE, NOT_POSSIBLE", x.combine(4, 0, 1, 0), -1);
        Check.due("combine: UNKNOWN (other), BAD_VALUE, NOT_POSSIBLE", x.combine(4, 0, 0, 1), -1);
        Check.due("combine: UNKNOWN (other), NOT_POSSIBLE", x.combine(0, 0, 0, 1), -1);
        Check.due("combine: BAD_VALUE, NOT_POSSIBLE", x.combine(4, 0, 0, 0), -2);
        Check.write(x, "2048,x");
        Check.due("readRanges: UNKNOWN, the fault", x.readRanges(1), -1);
        Check.due("readRanges: the fault, BAD_VALUE", x.readRanges(0), -105);
        Check.write(x, "24,2048");
        Check.due("readRanges: UNKNOWN, BAD_VALUE", x.readRanges(1), -1);
        Check.due("readRanges: BAD_VALUE, FULL", x.readRanges(0), -2);
        Check.due("sizeOf: UNKNOWN, BAD_VALUE", x.sizeOf(4, 1, 0), -1);
        Check.due("sizeOf: UNKNOWN (other), BAD_VALUE", x.sizeOf(4, 0, 1), -1);
        orderOfWhatIsTold(x);
    }

    private static void orderOfWhatIsTold(BoatSets x) {
        Check.due("has: UNKNOWN, BAD_VALUE", x.has(1, -1), -1);
        Check.due("set: UNKNOWN, BAD_VALUE", x.set(1, -1), -1);
        Check.due("boat: UNKNOWN, BAD_VALUE (bay)", x.boat(1, 8, 0), -1);
        Check.due("boat: UNKNOWN, BAD_VALUE (what)", x.boat(1, 0, 6), -1);
        Check.due("rank: UNKNOWN, BAD_VALUE", x.rank(1, 2048), -1);
        Check.due("at: UNKNOWN, BAD_VALUE", x.at(1, -1), -1);
        Check.due("next: UNKNOWN, BAD_VALUE", x.next(1, -1), -1);
        Check.due("nearest: UNKNOWN, BAD_VALUE", x.nearest(1, -1), -1);
        Check.due("gap: UNKNOWN, BAD_VALUE", x.gap(1, 0), -1);
    }

    private static void noneIfNoErrorApplies() {
        Check.sentence("NONE is no error; it is returned only if no error applies.");
        BoatSets x = Check.withSet(0);
        Check.due("boat: BAD_VALUE, and no boat", x.boat(0, 0, 6), -2);
        Check.due("at: BAD_VALUE, and no number", x.at(0, -1), -2);
        Check.due("next: BAD_VALUE, and no number", x.next(0, 2048), -2);
        Check.due("nearest: BAD_VALUE, and no number", x.nearest(0, -1), -2);
        Check.due("gap: BAD_VALUE, and no gap", x.gap(0, 2049), -2);
        Check.due("remove: BAD_VALUE, and not there", x.remove(0, 2048), -2);
        Check.due("removeRange: BAD_VALUE, and none there", x.removeRange(0, 9, 8), -2);
        Check.due("remove: UNKNOWN, and not there", x.remove(1, 0), -1);
        Check.due("set: UNKNOWN, and no least number", x.set(1, 7), -1);
        Check.due("ofAll: BAD_VALUE, and no number", x.ofAll(-1), -2);
        x.sail(0);
        Check.due("sail: NONE", x.sail(0), -5);
        Check.due("sail: UNKNOWN, though all sets are at sea", x.sail(1), -1);
        x.addRange(0, 0, 23);
        Check.due("addRange: BAD_VALUE, though all there are there", x.addRange(0, 23, 2), -2);
        Check.due("addRange: FULL, though some are there", x.addRange(0, 0, 24), -3);
        Check.write(x, "0-23,24");
        Check.due("readRanges: FULL, though some are there", x.readRanges(0), -3);
        Check.write(x, "0-23,");
        Check.due("readRanges: a fault, though all are there", x.readRanges(0), -105);
        Check.write(x, "0-23,9-8");
        Check.due("readRanges: BAD_VALUE, though all are there", x.readRanges(0), -2);
    }

    private static void refused(String call, ToIntFunction<BoatSets> more, int due) {
        Twins.changesNothing(call, SentencesOfStatesTest::makeRich, more, due);
    }

    private static void errorsOfSetsChangeNothing() {
        Check.sentence("A call that returns an error or NONE changes nothing.");
        refused("newSet -1", x -> x.newSet(-1), -2);
        refused("newSet 10000", x -> x.newSet(10000), -2);
        Twins.changesNothing("newSet of a seventh", SentencesOfStatesTest::makeSix, x -> x.newSet(5), -3);
        refused("pay of no set", x -> x.pay(2, 1), -1);
        refused("pay 0", x -> x.pay(0, 0), -2);
        refused("pay 10000", x -> x.pay(0, 10000), -2);
        refused("pay too much", x -> x.pay(0, 9998), -3);
        refused("sail of no set", x -> x.sail(2), -1);
        refused("sail at sea", x -> x.sail(1), -5);
        refused("dock of no set", x -> x.dock(2), -1);
    }

    private static void makeSix(BoatSets x) {
        makeRich(x);
        for (int i = 0; i < 4; i++) {
            x.newSet(i);
        }
    }

    private static void errorsOfNumbersChangeNothing() {
        Check.sentence("A call that returns an error or NONE changes nothing.");
        refused("add to no set", x -> x.add(2, 0), -1);
        refused("add 2048", x -> x.add(0, 2048), -2);
        refused("add a ninth run", x -> x.add(1, 100), -3);
        refused("add what is there", x -> x.add(0, 254), -5);
        refused("remove from no set", x -> x.remove(-1, 0), -1);
        refused("remove -1", x -> x.remove(0, -1), -2);
        refused("remove, a run is split", x -> x.remove(1, 1), -3);
        refused("remove what is not there", x -> x.remove(0, 0), -5);
        refused("addRange to no set", x -> x.addRange(2, 0, 9), -1);
        refused("addRange 9 to 8", x -> x.addRange(0, 9, 8), -2);
        refused("addRange of a ninth run", x -> x.addRange(1, 64, 70), -3);
        refused("addRange of what is there", x -> x.addRange(0, 254, 257), -5);
        refused("removeRange from no set", x -> x.removeRange(2, 0, 9), -1);
        refused("removeRange to 2048", x -> x.removeRange(0, 0, 2048), -2);
        refused("removeRange, a run is split", x -> x.removeRange(1, 1, 2), -3);
        refused("removeRange of what is not there", x -> x.removeRange(0, 0, 253), -5);
        refused("combine into no set", x -> x.combine(0, 2, 0, 1), -1);
        refused("combine of no set", x -> x.combine(0, 0, 2, 1), -1);
        refused("combine with no set", x -> x.combine(0, 0, 1, 2), -1);
        refused("combine 4", x -> x.combine(4, 0, 0, 1), -2);
        refused("combine at sea", x -> x.combine(0, 1, 0, 0), -4);
    }

    /** A row that would become runs, for which there are coins now. */
    private static void makePaidRow(BoatSets x) {
        x.newSet(0);
        x.addRange(0, 0, 4);
        x.pay(0, 50);
        Check.write(x, "1,0-4");
    }

    private static void noneChangesNothing() {
        Check.sentence("A call that returns an error or NONE changes nothing.");
        Consumer<BoatSets> paidRow = SentencesOfStatesTest::makePaidRow;
        Twins.changesNothing("add of what is there", paidRow, x -> x.add(0, 4), -5);
        Twins.changesNothing("remove of what is not there", paidRow, x -> x.remove(0, 5), -5);
        Twins.changesNothing("addRange of what is there", paidRow, x -> x.addRange(0, 0, 4), -5);
        Twins.changesNothing("removeRange of what is not there", paidRow, x -> x.removeRange(0, 5, 2047), -5);
        Twins.changesNothing("readRanges of what is there", paidRow, x -> x.readRanges(0), -5);
        Twins.changesNothing("sail at sea", paidRow.andThen(x -> x.sail(0)), x -> x.sail(0), -5);
    }

    /** A row that has room for 24, and coins for one toll of the bay before it. */
    private static void makeHalfRich(BoatSets x) {
        x.newSet(3);
        x.newSet(0);
        x.addRange(1, 300, 310);
        x.keep();
        x.add(1, 311);
    }

    private static void halfWayErrorsChangeNothing() {
        Check.sentence("A call that returns an error or NONE changes nothing.");
        Consumer<BoatSets> half = SentencesOfStatesTest::makeHalfRich;
        Twins.changesNothing("addRange, its first toll paid", half, x -> x.addRange(0, 254, 280), -3);
        Twins.changesNothing("addRange of one bay and a full one", half, x -> x.addRange(1, 255, 290), -3);
        Consumer<BoatSets> halfWithText = half.andThen(x -> Check.write(x, "5-6,256-300"));
        Twins.changesNothing("readRanges, its first toll paid", halfWithText, x -> x.readRanges(0), -3);
        Consumer<BoatSets> lateFault = half.andThen(x -> Check.write(x, "5-6,256-300,"));
        Twins.changesNothing("readRanges, a fault at its end", lateFault, x -> x.readRanges(0), -112);
        Consumer<BoatSets> lateValue = half.andThen(x -> Check.write(x, "5-6,7-5"));
        Twins.changesNothing("readRanges, a bad value at its end", lateValue, x -> x.readRanges(0), -2);
        Twins.changesNothing("addRange at sea", half.andThen(x -> x.sail(1)), x -> x.addRange(1, 250, 330), -3);
    }

    private static void errorsOfTextsAndHistoryChangeNothing() {
        Check.sentence("A call that returns an error or NONE changes nothing.");
        Consumer<BoatSets> full = x -> {
            makeRich(x);
            Check.write(x, "1000,1001,1002,1003,1004,1005,1006,1007,1008,1009,1010,12,78");
        };
        Twins.changesNothing("type behind 60", full, x -> x.type('2'), -3);
        refused("readRanges into no set", x -> x.readRanges(2), -1);
        Consumer<BoatSets> read = x -> {
            makeRich(x);
            x.readRanges(0);
        };
        Twins.changesNothing("readRanges of what is there", read, x -> x.readRanges(0), -5);
        Consumer<BoatSets> fault = x -> {
            makeRich(x);
            x.type('-');
        };
        Twins.changesNothing("readRanges of a fault", fault, x -> x.readRanges(0), -110);
        Twins.changesNothing("undo of nothing", x -> { }, x -> x.undo(), -5);
        Consumer<BoatSets> undone = x -> {
            makeRich(x);
            undoAll(x);
        };
        Twins.changesNothing("undo behind the last state", undone, x -> x.undo(), -5);
        Twins.changesNothing("restore of nothing", SentencesOfStatesTest::makeRowAtSea, x -> x.restore(), -5);
    }

    private static void told(String call, ToIntFunction<BoatSets> more) {
        BoatSets x = new BoatSets();
        makeRich(x);
        refused(call, more, more.applyAsInt(x));
    }

    private static void whatIsToldChangesNothing() {
        Check.sentence("---- what is told.");
        told("has", x -> x.has(0, 254));
        told("set", x -> x.set(0, 9));
        told("boat", x -> x.boat(0, 0, 5));
        told("boat that is none", x -> x.boat(0, 7, 5));
        told("rank", x -> x.rank(0, 2047));
        told("at", x -> x.at(0, 3));
        told("at, too far", x -> x.at(0, 2000));
        told("next", x -> x.next(0, 258));
        told("nearest", x -> x.nearest(0, 270));
        told("gap", x -> x.gap(0, 100));
        for (int how = 0; how <= 3; how++) {
            int which = how;
            told("sizeOf " + how, x -> x.sizeOf(which, 0, 1));
        }
        told("ofAll", x -> x.ofAll(7));
        told("most", BoatSets::most);
        told("tollToDock in the harbour", x -> x.tollToDock(0));
        told("tollToDock at sea", x -> x.tollToDock(1));
        told("count", x -> x.count(5));
        Twins.changesNothing("tollToDock of boats that would change", SentencesOfStatesTest::makeRowAtSea, x -> x.tollToDock(0), 3);
    }

    private static void constants() {
        Check.sentence("Errors are reported by the constants below.");
        Check.due("UNKNOWN", BoatSets.UNKNOWN, -1);
        Check.due("BAD_VALUE", BoatSets.BAD_VALUE, -2);
        Check.due("FULL", BoatSets.FULL, -3);
        Check.due("NOT_POSSIBLE", BoatSets.NOT_POSSIBLE, -4);
        Check.due("NONE", BoatSets.NONE, -5);
    }

    private static void undoTellsTheStatesLeft() {
        Check.sentence("Returns the number of states that are left");
        BoatSets x = withNumbers(8);
        for (int left = 3; left >= 0; left--) {
            Check.due("left", x.undo(), left);
        }
        BoatSets y = Check.withSet(0);
        Check.due("of one", y.undo(), 0);
    }

    private static void undoOfAnEmptyHistory() {
        Check.sentence("NONE if the history is empty.");
        BoatSets x = new BoatSets();
        Check.due("at first", x.undo(), -5);
        x.newSet(-1);
        Check.due("behind an error", x.undo(), -5);
        x.newSet(0);
        x.undo();
        Check.due("behind the last one", x.undo(), -5);
        Check.due("once more", x.undo(), -5);
        Check.due("nothing is there", x.count(0), 0);
    }

    private static void keepTellsTheSets() {
        Check.sentence("Returns the number of sets.");
        BoatSets x = new BoatSets();
        for (int sets = 0; sets <= 6; sets++) {
            Check.due("keep", x.keep(), sets);
            x.newSet(0);
        }
    }

    private static void keepInPlaceOfTheOneBefore() {
        Check.sentence("Takes a snapshot of the state, in place of the one that was.");
        BoatSets x = Check.withSet(5);
        x.newSet(6);
        x.add(0, 1);
        x.keep();
        x.undo();
        x.undo();
        Check.due("of one set", x.keep(), 1);
        x.newSet(7);
        Check.due("restored", x.restore(), 1);
        Check.due("nothing of the one before", x.set(0, 0), 0);
        Check.due("no set 1", x.set(1, 0), -1);
        x.newSet(8);
        Check.due("a new set 1", x.set(1, 3), 8);
        x.add(0, 9);
        Check.due("what comes then is not in it", x.restore(), 1);
        Check.due("no 9", x.has(0, 9), 0);
    }

    private static void restoreKeepsTheSnapshot() {
        Check.sentence("Restores the state of the snapshot, which stays.");
        BoatSets x = withNumbers(3);
        x.keep();
        for (int turn = 0; turn < 3; turn++) {
            x.add(0, 100 + turn);
            x.remove(0, 1);
            x.pay(0, 5);
            x.newSet(5);
            Check.due("restore", x.restore(), 1);
            Check.due("three numbers", x.set(0, 0), 3);
            Check.due("1 is there", x.has(0, 1), 1);
            Check.due("no coins", x.set(0, 3), 0);
        }
    }

    private static void restoreIsAnAct() {
        Check.sentence("This is an act. Returns the number of sets then");
        BoatSets x = new BoatSets();
        x.keep();
        x.newSet(5);
        x.newSet(6);
        Check.due("no sets", x.restore(), 0);
        Check.due("three states", x.count(9), 3);
        Check.due("undone", x.undo(), 2);
        Check.due("two sets", x.count(0), 2);
        Check.due("the purse of one", x.set(1, 3), 6);
        x.keep();
        x.undo();
        Check.due("two sets again", x.restore(), 2);
    }

    private static void restoreWithoutASnapshot() {
        Check.sentence("NONE if there is no snapshot.");
        BoatSets x = withNumbers(1);
        Check.due("none", x.restore(), -5);
        Check.due("no act", x.count(9), 2);
        Check.due("the number stays", x.set(0, 0), 1);
        Check.due("an empty harbour is a snapshot too", new BoatSets().keep(), 0);
        BoatSets y = new BoatSets();
        y.keep();
        Check.due("it is restored", y.restore(), 0);
    }
}
