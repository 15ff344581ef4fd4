/** The sentences of TEXTS and of promises 11 to 13, each with a test of its own. */
public final class SentencesOfTextsTest {
    public static void main(String[] args) {
        sixtyCharactersAtMost();
        emptyAtFirst();
        rangesWithCommasBetween();
        oneNumberOrTwo();
        oneToFourDigits();
        noZeroInFront();
        faultIsTheFirstOne();
        faultOfStrangeCharacters();
        faultOfATextThatEndsTooEarly();
        typeBehindTheText();
        typeAnyCharacter();
        typeFull();
        clearTextTellsTheLength();
        readKeepsTheText();
        readOneAfterTheOther();
        readAsAddRangeDoes();
        readAllOrNone();
        readIsOneAct();
        readUnknown();
        readFaultIsAnError();
        readBadValues();
        readFull();
        readNone();
        Check.finish();
    }

    /** 30 ranges of one number each, 11 different ones: 10, then 0 to 8 over and over, then 9. */
    private static String sixtyCharacters() {
        StringBuilder text = new StringBuilder("10");
        for (int i = 0; i < 28; i++) {
            text.append(',').append(i % 9);
        }
        return text.append(",9").toString();
    }

    private static void sixtyCharactersAtMost() {
        Check.sentence("There is a text of at most 60 characters");
        BoatSets x = Check.withSet(0);
        String text = sixtyCharacters();
        for (int i = 0; i < 60; i++) {
            Check.due("character " + i, x.type(text.charAt(i)), i + 1);
        }
        Check.due("one more", x.type('1'), -3);
        Check.due("60", x.count(10), 60);
        Check.due("all 60 are read", x.readRanges(0), 11);
        Check.due("the last one too", x.has(0, 9), 1);
    }

    private static void emptyAtFirst() {
        Check.sentence("empty at first.");
        BoatSets x = Check.withSet(0);
        Check.due("length", x.count(10), 0);
        Check.due("fault", x.readRanges(0), -100);
        Check.due("cleared", x.clearText(), 0);
        Check.due("the first character", x.type('7'), 1);
        Check.due("alone", x.readRanges(0), 1);
        Check.due("it is a seven", x.has(0, 7), 1);
    }

    private static void rangesWithCommasBetween() {
        Check.sentence("A text of ranges is one or more ranges with \",\" between two");
        Check.due("one", Check.read("7"), 1);
        Check.due("two", Check.read("7,9"), 2);
        Check.due("three", Check.read("7,9-10,12"), 4);
        Check.due("thirty", Check.read(sixtyCharacters()), 11);
        Check.due("none between commas", Check.read("7,,9"), -102);
        Check.due("none ahead of a comma", Check.read(",7"), -100);
        Check.due("none behind a comma", Check.read("7,"), -102);
        Check.due("another sign between two", Check.read("7;9"), -101);
        Check.due("a blank between two", Check.read("7 9"), -101);
        Check.due("a blank behind the comma", Check.read("7, 9"), -102);
    }

    private static void oneNumberOrTwo() {
        Check.sentence("a range is a number, or two numbers with \"-\" between them.");
        Check.due("a number", Check.read("3"), 1);
        Check.due("two", Check.read("3-6"), 4);
        Check.due("the same twice", Check.read("3-3"), 1);
        Check.due("three", Check.read("3-6-9"), -103);
        Check.due("three in the second range", Check.read("1,3-6-9"), -105);
        Check.due("two in each range", Check.read("1-2,3-6,8-9"), 8);
        Check.due("none ahead of the sign", Check.read("-3"), -100);
        Check.due("none ahead of it in the second range", Check.read("1,-3"), -102);
        Check.due("none behind it", Check.read("3-"), -102);
        Check.due("none behind it, but a comma", Check.read("3-,4"), -102);
        Check.due("two signs", Check.read("3--6"), -102);
    }

    private static void oneToFourDigits() {
        Check.sentence("A number has one to four digits");
        Check.due("one", Check.read("1"), 1);
        Check.due("two", Check.read("12"), 1);
        Check.due("three", Check.read("123"), 1);
        Check.due("four", Check.read("1234"), 1);
        Check.due("five", Check.read("12345"), -104);
        Check.due("five, the second number", Check.read("1-12345"), -106);
        Check.due("four and four", Check.read("1234-1235"), 2);
        Check.due("five, the second range", Check.read("1234,12345"), -109);
        Check.due("five, ahead of the second number", Check.read("12345-6"), -104);
        Check.due("each digit", Check.read("0,1,2,3,4,5,6,7,8,9"), 10);
        Check.due("none", Check.read(""), -100);
    }

    private static void noZeroInFront() {
        Check.sentence("without a zero in front (unless it is the single digit 0).");
        Check.due("the single digit", Check.read("0"), 1);
        Check.due("two zeros", Check.read("00"), -101);
        Check.due("a zero in front", Check.read("07"), -101);
        Check.due("of the second number", Check.read("0-07"), -103);
        Check.due("of the second range", Check.read("0,07"), -103);
        Check.due("the single digit everywhere", Check.read("0-0,0,0-2"), 3);
        Check.due("zeros behind another digit", Check.read("10,100,1000,1001"), 4);
    }

    private static void faultIsTheFirstOne() {
        Check.sentence("The fault of the text is the index, from 0, of the first character that is not allowed at its place");
        Check.due("index 0", Check.read("x"), -100);
        Check.due("index 1", Check.read("1x"), -101);
        Check.due("the first of two", Check.read("1,x,,"), -102);
        Check.due("ahead of a text that ends too early", Check.read("1-2-"), -103);
        Check.due("a digit may not follow this zero", Check.read("1,05"), -103);
        Check.due("a fifth digit may not stand here", Check.read("1,10000"), -106);
        Check.due("a comma may not follow this one", Check.read("1-,"), -102);
        Check.due("a minus may not follow this one", Check.read("1,-"), -102);
        Check.due("index 59", Check.read(sixtyCharacters().substring(0, 59) + "x"), -159);
        Check.due("index 59 of 60, a comma", Check.read(sixtyCharacters().substring(0, 59) + ","), -159);
    }

    private static void faultOfStrangeCharacters() {
        Check.sentence("The fault of the text is the index, from 0, of the first character that is not allowed at its place");
        int[] signs = {0, 10, 32, 43, 44, 45, 46, 47, 58, 59, 95, 127, 128, 173, 255, 256, 304, 0x0661, 0x2212, 0xff11, 65535};
        for (int sign : signs) {
            Check.due("sign " + sign + " first", Check.read("" + (char) sign + "1"), -100);
            int second = sign == ',' || sign == '-' ? 2 : -101;
            Check.due("sign " + sign + " behind a digit", Check.read("1" + (char) sign + "2"), second);
            Check.due("sign " + sign + " behind a comma", Check.read("1," + (char) sign + "2"), -102);
        }
    }

    private static void faultOfATextThatEndsTooEarly() {
        Check.sentence("or the length of the text if it ends too early (the empty text does).");
        Check.due("the empty text", Check.read(""), -100);
        Check.due("behind a comma", Check.read("1,"), -102);
        Check.due("behind a minus", Check.read("12-"), -103);
        Check.due("behind a minus of the second range", Check.read("12,3-"), -105);
        Check.due("of 60 characters", Check.read("1" + sixtyCharacters().substring(0, 58) + ","), -160);
        BoatSets x = Check.withSet(0);
        Check.write(x, "12");
        x.clearText();
        Check.due("emptied", x.readRanges(0), -100);
    }

    private static void typeBehindTheText() {
        Check.sentence("Types a character behind the text.");
        BoatSets x = Check.withSet(0);
        Check.due("1", x.type('1'), 1);
        Check.due("2", x.type('2'), 2);
        Check.due("read", x.readRanges(0), 1);
        Check.due("12", x.has(0, 12), 1);
        Check.due("3", x.type('3'), 3);
        Check.due("read again", x.readRanges(0), 1);
        Check.due("123", x.has(0, 123), 1);
    }

    private static void typeAnyCharacter() {
        Check.sentence("any character");
        BoatSets x = Check.withSet(0);
        int[] signs = {0, 1, 31, 127, 128, 255, 256, 55296, 56320, 65534, 65535};
        for (int i = 0; i < signs.length; i++) {
            Check.due("sign " + signs[i], x.type((char) signs[i]), i + 1);
        }
        Check.due("the first one is the fault", x.readRanges(0), -100);
    }

    private static void typeFull() {
        Check.sentence("Returns the length of the text then; FULL if it has 60 characters.");
        BoatSets x = new BoatSets();
        for (int length = 1; length <= 60; length++) {
            Check.due("type", x.type('x'), length);
        }
        Check.due("the 61st", x.type('x'), -3);
        Check.due("and the 62nd", x.type('1'), -3);
        Check.due("60 were there", x.clearText(), 60);
        Check.due("there is room again", x.type('x'), 1);
    }

    private static void clearTextTellsTheLength() {
        Check.sentence("Returns the length that it had.");
        BoatSets x = Check.withSet(0);
        Check.due("empty", x.clearText(), 0);
        x.type('x');
        Check.due("one", x.clearText(), 1);
        Check.due("emptied", x.clearText(), 0);
        Check.write(x, sixtyCharacters());
        Check.due("60", x.clearText(), 60);
        Check.due("length then", x.count(10), 0);
        Check.due("nothing to read", x.readRanges(0), -100);
        x.type('8');
        Check.due("nothing of what was", x.readRanges(0), 1);
        Check.due("an eight alone", x.at(0, 0), 8);
    }

    private static void readKeepsTheText() {
        Check.sentence("Adds the ranges of the text, which stays, to a set");
        BoatSets x = Check.withSet(0);
        x.newSet(0);
        Check.write(x, "3-5,9");
        Check.due("into set 0", x.readRanges(0), 4);
        Check.due("the text stays", x.count(10), 5);
        Check.due("into set 1", x.readRanges(1), 4);
        Check.due("9 is there", x.has(1, 9), 1);
        Check.due("NONE", x.readRanges(1), -5);
        Check.due("the text stays then too", x.count(10), 5);
        x.type('x');
        Check.due("a fault", x.readRanges(1), -105);
        Check.due("and then", x.clearText(), 6);
    }

    private static void readOneAfterTheOther() {
        Check.sentence("one after the other, as addRange() does");
        BoatSets x = Check.withSet(3);
        Check.write(x, "300-301,10-11");
        Check.due("four come", x.readRanges(0), 4);
        Check.due("the first range is paid", x.boat(0, 1, 0), 2);
        Check.due("the second one is not", x.boat(0, 0, 0), 0);
        BoatSets y = Made.atSea(0, Made.eightRuns());
        Check.write(y, "7,5-6");
        Check.due("7, then 5: a ninth run", y.readRanges(0), -3);
        Check.write(y, "7,6,5");
        Check.due("7, then 6, then 5", y.readRanges(0), 3);
        BoatSets z = Check.withSet(0);
        Check.write(z, "3-6,5-8,4");
        Check.due("each one comes once", z.readRanges(0), 6);
    }

    private static void readAsAddRangeDoes() {
        Check.sentence("one after the other, as addRange() does");
        String[] texts = {"0-4", "5-7", "4-6", "250-260", "60-70", "0-2047", "4,20,100", "12,11"};
        int[][] ranges = {{0, 4}, {5, 7}, {4, 6}, {250, 260}, {60, 70}, {0, 2047}, {4, 4, 20, 20, 100, 100}, {12, 12, 11, 11}};
        for (int i = 0; i < texts.length; i++) {
            BoatSets read = Made.withBest(40, Made.eightRuns());
            Check.write(read, texts[i]);
            int came = read.readRanges(0);
            BoatSets added = Made.withBest(40, Made.eightRuns());
            int sum = 0;
            for (int range = 0; range < ranges[i].length; range += 2) {
                sum += Math.max(0, added.addRange(0, ranges[i][range], ranges[i][range + 1]));
            }
            Check.due("come by " + texts[i], came < 0 ? 0 : came, sum);
            for (int what = 0; what <= 9; what++) {
                Check.due(texts[i] + ", told " + what, read.set(0, what), added.set(0, what));
            }
        }
    }

    private static void readAllOrNone() {
        Check.sentence("all of them, or none.");
        BoatSets x = Check.withSet(3);
        x.add(0, 700);
        Check.write(x, "1000-1001,0-10,256-280");
        Check.due("the 25th of the last range cannot come", x.readRanges(0), -3);
        Check.due("none came", x.set(0, 0), 1);
        Check.due("no boat of them", x.set(0, 1), 1);
        Check.due("no toll", x.set(0, 3), 3);
        Check.due("none was paid", x.set(0, 5), 0);
        Check.write(x, "1000-1001,0-10,256-279");
        Check.due("one less: all come", x.readRanges(0), 37);
        Check.due("the toll of the first", x.set(0, 5), 3);
    }

    private static void readIsOneAct() {
        Check.sentence("This is one act.");
        BoatSets x = Check.withSet(0);
        Check.write(x, "1,3,5-7,300");
        Check.due("six come", x.readRanges(0), 6);
        Check.due("one state more", x.count(9), 2);
        Check.due("undone at once", x.undo(), 1);
        Check.due("none is left", x.set(0, 0), 0);
    }

    private static void readUnknown() {
        Check.sentence("UNKNOWN; -100 minus the fault of the text if it has one (which is an error)");
        BoatSets x = new BoatSets();
        Check.due("no set, and a fault", x.readRanges(0), -1);
        Check.write(x, "9999");
        Check.due("no set, and a bad value", x.readRanges(0), -1);
        x.newSet(0);
        Check.due("set -1", x.readRanges(-1), -1);
        Check.due("set 1", x.readRanges(1), -1);
        Check.write(x, "9999,5-4,x");
        Check.due("a fault ahead of bad values", x.readRanges(0), -109);
        Check.write(x, "0-24,");
        Check.due("a fault ahead of FULL", x.readRanges(0), -105);
        x.add(0, 7);
        Check.write(x, "7-");
        Check.due("a fault ahead of NONE", x.readRanges(0), -102);
    }

    private static void readFaultIsAnError() {
        Check.sentence("-100 minus the fault of the text if it has one (which is an error)");
        BoatSets x = Check.withSet(0);
        Check.write(x, "1,2,x");
        Check.due("fault 4", x.readRanges(0), -104);
        Check.due("no act", x.count(9), 1);
        Check.due("none came", x.set(0, 0), 0);
        Check.due("the text stays", x.count(10), 5);
    }

    private static void readBadValues() {
        Check.sentence("BAD_VALUE if a number is out of its range, or the second one of a range is less than the first one");
        Check.due("2047", Check.read("2047"), 1);
        Check.due("2048", Check.read("2048"), -2);
        Check.due("9999", Check.read("9999"), -2);
        Check.due("to 2047", Check.read("2046-2047"), 2);
        Check.due("to 2048", Check.read("2046-2048"), -2);
        Check.due("from 2048", Check.read("2048-2049"), -2);
        Check.due("from 2048 down", Check.read("2048-5"), -2);
        Check.due("in the last range", Check.read("1,2,2048"), -2);
        Check.due("5 to 5", Check.read("5-5"), 1);
        Check.due("5 to 4", Check.read("5-4"), -2);
        Check.due("in the middle", Check.read("1,10-9,3"), -2);
        BoatSets x = Check.withSet(0);
        Check.write(x, "0-24,2048");
        Check.due("ahead of FULL", x.readRanges(0), -2);
        x.add(0, 7);
        Check.write(x, "7,6-5");
        Check.due("ahead of NONE", x.readRanges(0), -2);
        Check.due("none came", x.set(0, 0), 1);
    }

    private static void readFull() {
        Check.sentence("FULL if a number cannot come");
        BoatSets x = Check.withSet(0);
        Check.write(x, "0-24");
        Check.due("25 for a row", x.readRanges(0), -3);
        Check.write(x, "0-23");
        Check.due("24", x.readRanges(0), 24);
        Check.write(x, "5,30");
        Check.due("one is there, one cannot come", x.readRanges(0), -3);
        BoatSets y = Made.atSea(9999, Made.eightRuns());
        Check.write(y, "0-4,100");
        Check.due("a ninth run at sea", y.readRanges(0), -3);
        Check.due("4 is not there", y.has(0, 4), 0);
    }

    private static void readNone() {
        Check.sentence("NONE if all are there already.");
        BoatSets x = Check.withSet(0);
        x.addRange(0, 0, 23);
        Check.write(x, "3,0-23,5-6");
        Check.due("all are there, of a full row", x.readRanges(0), -5);
        Check.due("no act", x.count(9), 2);
        Check.write(x, "3,300");
        Check.due("one is not", x.readRanges(0), 1);
        Check.due("now it is", x.readRanges(0), -5);
    }
}
