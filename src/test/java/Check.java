/** Counts the answers that are not the ones that are due. */
final class Check {
    private static int looked = 0;
    private static int wrong = 0;
    private static int sentences = 0;
    private static int lookedBefore = 0;
    private static String sentence = "";

    private Check() {
    }

    /** Says which sentence of the document the looks that follow stand for. */
    static void sentence(String words) {
        endSentence();
        sentence = words;
        sentences++;
        lookedBefore = looked;
    }

    private static void endSentence() {
        if (sentences > 0 && looked == lookedBefore) {
            that("there is a look at it", false);
        }
    }

    static void due(String call, long got, long want) {
        looked++;
        if (got != want) {
            wrong++;
            String place = sentence.isEmpty() ? "" : "\"" + sentence + "\" ";
            System.out.println(place + call + " answered " + got + ", due is " + want);
        }
    }

    static void that(String what, boolean holds) {
        due(what, holds ? 1 : 0, 1);
    }

    static void finish() {
        endSentence();
        String of = sentences == 0 ? "" : " for " + sentences + " sentences";
        System.out.println(looked + " answers looked at" + of + ", " + wrong + " not as due");
        if (wrong != 0 || looked == 0) {
            System.exit(1);
        }
    }

    /** Types a whole text in place of the one that was. */
    static void write(BoatSets x, String text) {
        x.clearText();
        for (int i = 0; i < text.length(); i++) {
            x.type(text.charAt(i));
        }
    }

    /** What readRanges answers for a text on a set of a new object with a full purse. */
    static int read(String text) {
        BoatSets x = new BoatSets();
        x.newSet(9999);
        write(x, text);
        return x.readRanges(0);
    }

    /** An object with one set that has a purse. */
    static BoatSets withSet(int coins) {
        BoatSets x = new BoatSets();
        x.newSet(coins);
        return x;
    }

    /** Adds every second number from a number on: each one a run of its own. */
    static void addSingles(BoatSets x, int set, int from, int how) {
        for (int i = 0; i < how; i++) {
            x.add(set, from + 2 * i);
        }
    }
}
