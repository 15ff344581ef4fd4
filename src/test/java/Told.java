/** All that an object tells of its state, as one text. */
final class Told {
    private Told() {
    }

    static String of(BoatSets x) {
        StringBuilder told = new StringBuilder();
        for (int what = 0; what <= 10; what++) {
            told.append(x.count(what)).append(' ');
        }
        int sets = Math.min(x.count(0), 6);
        for (int set = 0; set < sets; set++) {
            ofSet(x, set, told);
        }
        return told.toString();
    }

    private static void ofSet(BoatSets x, int set, StringBuilder told) {
        told.append("| ");
        for (int what = 0; what <= 9; what++) {
            told.append(x.set(set, what)).append(' ');
        }
        for (int bay = 0; bay < 8; bay++) {
            int kind = x.boat(set, bay, 0);
            told.append(kind).append(' ');
            for (int what = 1; what <= 5 && kind >= 0; what++) {
                told.append(x.boat(set, bay, what)).append(' ');
            }
        }
        int size = Math.min(x.set(set, 0), 2048);
        for (int place = 0; place < size; place++) {
            told.append(x.at(set, place)).append(' ');
        }
    }
}
