/** Promises 14 to 16: undo, keep, restore. */
public final class HistoryTest {
    public static void main(String[] args) {
        promise14Undo();
        promise14UndoBringsAllBack();
        promise15Keep();
        promise16Restore();
        Check.finish();
    }

    private static void promise14Undo() {
        BoatSets x = new BoatSets();
        Check.due("empty history", x.undo(), -5);
        x.newSet(0);
        for (int number = 0; number < 6; number++) {
            x.add(0, number);
        }
        Check.due("at most 4 states", x.count(9), 4);
        Check.due("three left", x.undo(), 3);
        Check.due("five numbers", x.set(0, 0), 5);
        Check.due("two left", x.undo(), 2);
        Check.due("an act after undo", x.add(0, 100), 0);
        Check.due("three states", x.count(9), 3);
        Check.due("back", x.undo(), 2);
        Check.due("not there", x.has(0, 100), 0);
        Check.due("one left", x.undo(), 1);
        Check.due("none left", x.undo(), 0);
        Check.due("two numbers", x.set(0, 0), 2);
        Check.due("empty", x.undo(), -5);
        Check.due("two numbers still", x.set(0, 0), 2);
        for (int turn = 0; turn < 3; turn++) {
            for (int number = 10; number < 16; number++) {
                x.add(0, number + 20 * turn);
            }
            Check.due("last one", x.has(0, 15 + 20 * turn), 1);
            x.undo();
            Check.due("undone", x.has(0, 15 + 20 * turn), 0);
            Check.due("the one before stays", x.has(0, 14 + 20 * turn), 1);
        }
    }

    private static void promise14UndoBringsAllBack() {
        BoatSets x = Check.withSet(40);
        x.newSet(7);
        x.addRange(0, 0, 9);
        x.sail(1);
        x.type('5');
        x.undo();
        Check.due("at sea no more", x.set(1, 4), 0);
        x.undo();
        Check.due("coins", x.set(0, 3), 40);
        Check.due("tolls", x.count(8), 0);
        Check.due("boats", x.set(0, 1), 0);
        Check.due("the text stays", x.count(10), 1);
        x.undo();
        Check.due("one set", x.count(0), 1);
        Check.due("no set 1", x.set(1, 0), -1);
        x.undo();
        Check.due("no set", x.count(0), 0);
    }

    private static void promise15Keep() {
        BoatSets x = new BoatSets();
        Check.due("without sets", x.keep(), 0);
        Check.due("no act", x.count(9), 0);
        x.newSet(10);
        x.newSet(20);
        Check.due("two sets", x.keep(), 2);
        Check.due("no act", x.count(9), 2);
        x.add(0, 5);
        x.keep();
        x.add(0, 6);
        x.undo();
        x.undo();
        Check.due("undo leaves the snapshot", x.restore(), 2);
        Check.due("the later snapshot", x.has(0, 5), 1);
        Check.due("without what came after it", x.has(0, 6), 0);
    }

    private static void promise16Restore() {
        BoatSets x = new BoatSets();
        Check.due("no snapshot", x.restore(), -5);
        Check.due("NONE is no act", x.count(9), 0);
        x.keep();
        x.newSet(1);
        Check.due("an empty harbour", x.restore(), 0);
        Check.due("no set", x.set(0, 0), -1);
        Check.due("an act", x.count(9), 2);
        Check.due("undo of it", x.undo(), 1);
        Check.due("the set again", x.set(0, 3), 1);
        BoatSets y = Check.withSet(40);
        y.addRange(0, 0, 9);
        y.sail(0);
        y.keep();
        y.dock(0);
        y.removeRange(0, 0, 2047);
        y.newSet(3);
        y.type('9');
        Check.due("one set", y.restore(), 1);
        Check.due("numbers", y.set(0, 0), 10);
        Check.due("coins", y.set(0, 3), 37);
        Check.due("tolls", y.set(0, 5), 3);
        Check.due("at sea", y.set(0, 4), 1);
        Check.due("runs", y.boat(0, 0, 0), 2);
        Check.due("the text stays", y.count(10), 1);
        y.add(0, 10);
        Check.due("the snapshot stays", y.restore(), 1);
        Check.due("as it was", y.set(0, 0), 10);
        Check.due("the history goes on", y.count(9), 4);
        Check.due("undo", y.undo(), 3);
        Check.due("11 numbers", y.set(0, 0), 11);
    }
}
