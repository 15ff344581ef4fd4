/** Promises 11 to 13: type, clearText, readRanges. */
public final class TextsTest {
    public static void main(String[] args) {
        promise11Type();
        promise12ClearText();
        promise13Faults();
        promise13FaultOfEveryCharacter();
        promise13Values();
        promise13Ranges();
        promise13AllOrNone();
        Check.finish();
    }

    private static void promise11Type() {
        BoatSets x = new BoatSets();
        for (int i = 1; i <= 60; i++) {
            Check.due("type", x.type((char) (i * 1091)), i);
        }
        Check.due("the 61st", x.type('1'), -3);
        Check.due("length", x.count(10), 60);
        Check.due("no act", x.count(9), 0);
    }

    private static void promise12ClearText() {
        BoatSets x = new BoatSets();
        Check.due("empty", x.clearText(), 0);
        x.type('1');
        x.type(',');
        Check.due("two", x.clearText(), 2);
        Check.due("empty again", x.clearText(), 0);
        Check.due("length", x.count(10), 0);
        Check.due("no act", x.count(9), 0);
        Check.due("typed anew", x.type('7'), 1);
        x.newSet(0);
        Check.due("what was typed anew is read", x.readRanges(0), 1);
        Check.due("a seven", x.has(0, 7), 1);
    }

    private static void promise13Faults() {
        Check.due("empty text", Check.read(""), -100);
        Check.due("a comma first", Check.read(",1"), -100);
        Check.due("a minus first", Check.read("-1"), -100);
        Check.due("ends after a comma", Check.read("1,"), -102);
        Check.due("ends after a minus", Check.read("12-"), -103);
        Check.due("two commas", Check.read("1,,2"), -102);
        Check.due("comma after minus", Check.read("1-,2"), -102);
        Check.due("two minus", Check.read("1--2"), -102);
        Check.due("a second minus", Check.read("1-2-3"), -103);
        Check.due("a minus in the next range is fine", Check.read("1-2,3-4"), 4);
        Check.due("a zero in front", Check.read("01"), -101);
        Check.due("two zeros", Check.read("00"), -101);
        Check.due("a zero in front of the second number", Check.read("1-02"), -103);
        Check.due("a zero in front in the next range", Check.read("1,05"), -103);
        Check.due("the single digit 0", Check.read("0"), 1);
        Check.due("0 in all places", Check.read("0-0,0"), 1);
        Check.due("zeros inside", Check.read("1000,200-200"), 2);
        Check.due("five digits", Check.read("10000"), -104);
        Check.due("five digits in the second", Check.read("1-20000"), -106);
        Check.due("a blank", Check.read("1, 2"), -102);
        Check.due("a letter", Check.read("1a"), -101);
        Check.due("a fault ahead of a bad value", Check.read("9999,5-4,x"), -109);
        Check.due("another digit sign", Check.read("1" + (char) 0x0661), -101);
        StringBuilder whole = new StringBuilder("1");
        for (int i = 0; i < 29; i++) {
            whole.append(",2");
        }
        Check.due("30 ranges", Check.read(whole.toString()), 2);
        Check.due("fault at the end of 60", Check.read(whole.append(',').toString()), -160);
    }

    private static void promise13FaultOfEveryCharacter() {
        for (int sign = 0; sign < 65536; sign++) {
            boolean digit = sign >= '0' && sign <= '9';
            BoatSets x = Check.withSet(0);
            x.type((char) sign);
            Check.due("first sign " + sign, x.readRanges(0), digit ? 1 : -100);
        }
        for (int sign = 0; sign < 65536; sign++) {
            boolean digit = sign >= '0' && sign <= '9';
            BoatSets x = Check.withSet(0);
            x.type('1');
            x.type((char) sign);
            int due = digit ? 1 : sign == ',' || sign == '-' ? -102 : -101;
            Check.due("second sign " + sign, x.readRanges(0), due);
        }
    }

    private static void promise13Values() {
        BoatSets x = new BoatSets();
        Check.due("unknown ahead of the fault", x.readRanges(0), -1);
        x.newSet(0);
        Check.due("unknown -1", x.readRanges(-1), -1);
        Check.due("2047", Check.read("2047"), 1);
        Check.due("2048", Check.read("2048"), -2);
        Check.due("9999", Check.read("1,9999"), -2);
        Check.due("second 2048", Check.read("5-2048"), -2);
        Check.due("first 2048", Check.read("2048-5"), -2);
        Check.due("second less than first", Check.read("5-4"), -2);
        Check.due("in a later range", Check.read("1,2,7-5"), -2);
        Check.due("equal ones", Check.read("5-5"), 1);
        Check.write(x, "0-24,5-4");
        Check.due("BAD_VALUE ahead of FULL", x.readRanges(0), -2);
        Check.write(x, "0-24,30");
        Check.due("FULL", x.readRanges(0), -3);
        Check.due("no acts", x.count(9), 1);
        Check.due("none came", x.set(0, 0), 0);
    }

    private static void promise13Ranges() {
        BoatSets x = Check.withSet(100);
        Check.write(x, "10-19,300,15-24,7");
        Check.due("come", x.readRanges(0), 17);
        Check.due("one act", x.count(9), 2);
        Check.due("7", x.has(0, 7), 1);
        Check.due("24", x.has(0, 24), 1);
        Check.due("300", x.has(0, 300), 1);
        Check.due("9", x.has(0, 9), 0);
        Check.due("the text stays", x.count(10), 17);
        Check.due("all there already", x.readRanges(0), -5);
        Check.due("NONE is no act", x.count(9), 2);
        Check.due("undo leaves the text", x.undo(), 1);
        Check.due("length", x.count(10), 17);
        Check.due("numbers are gone", x.set(0, 0), 0);
        // In the order of the text: the upper bay pays first.
        BoatSets y = Check.withSet(3);
        Check.write(y, "300-301,10-11");
        Check.due("come", y.readRanges(0), 4);
        Check.due("bay 1 has paid", y.boat(0, 1, 0), 2);
        Check.due("bay 0 could not", y.boat(0, 0, 0), 0);
    }

    private static void promise13AllOrNone() {
        BoatSets x = Check.withSet(0);
        x.add(0, 5);
        Check.write(x, "600,0-10,256-280");
        Check.due("the last one is too much", x.readRanges(0), -3);
        Check.due("none of them", x.set(0, 0), 1);
        Check.write(x, "0-10,5,256-279");
        Check.due("this goes", x.readRanges(0), 34);
        Check.write(x, "280");
        Check.due("full now", x.readRanges(0), -3);
        Check.write(x, "279,5");
        Check.due("those that are there need not come", x.readRanges(0), -5);
        x.sail(0);
        Check.write(x, "11-23");
        Check.due("at sea too", x.readRanges(0), 13);
        Check.write(x, "24");
        Check.due("full at sea", x.readRanges(0), -3);
    }
}
