import java.util.ArrayList;
import java.util.Collections;
import java.util.List;
import java.util.TreeMap;
import java.util.TreeSet;

/**
 * The document's words once more, as plainly as the Java library lets them be said and with nothing
 * kept that can be counted anew. BoatSets is compared with it.
 */
final class PlainModel {
    static final class Ship {
        TreeSet<Integer> numbers = new TreeSet<>();
        TreeMap<Integer, Integer> kindOfBay = new TreeMap<>();
        int purse;
        int paid;
        boolean atSea;

        Ship copy() {
            Ship c = new Ship();
            c.numbers = new TreeSet<>(numbers);
            c.kindOfBay = new TreeMap<>(kindOfBay);
            c.purse = purse;
            c.paid = paid;
            c.atSea = atSea;
            return c;
        }

        TreeSet<Integer> ofBay(int bay) {
            return new TreeSet<>(numbers.subSet(256 * bay, 256 * bay + 256));
        }

        static int runsOf(TreeSet<Integer> some) {
            int runs = 0;
            for (int n : some) {
                if (!some.contains(n - 1)) {
                    runs++;
                }
            }
            return runs;
        }

        static boolean can(TreeSet<Integer> some, int kind) {
            return kind == 0 ? some.size() <= 24 : kind == 1 || runsOf(some) <= 8;
        }

        static int cost(TreeSet<Integer> some, int kind) {
            return kind == 0 ? 2 * some.size() : kind == 1 ? 32 : 3 * runsOf(some);
        }

        static int best(TreeSet<Integer> some) {
            int found = -1;
            for (int kind = 0; kind < 3; kind++) {
                if (can(some, kind) && (found < 0 || cost(some, kind) < cost(some, found))) {
                    found = kind;
                }
            }
            return found;
        }

        /** Lets one number come or go; answers whether it could. */
        boolean change(int number, boolean coming) {
            int bay = number / 256;
            TreeSet<Integer> then = ofBay(bay);
            if (coming) {
                then.add(number);
            } else {
                then.remove(number);
            }
            if (then.isEmpty()) {
                numbers.remove(number);
                kindOfBay.remove(bay);
                return true;
            }
            int kind = kindOfBay.getOrDefault(bay, 0);
            int toll = 0;
            if (!atSea && best(then) != kind && purse >= cost(then, best(then))) {
                kind = best(then);
                toll = cost(then, kind);
            }
            if (!can(then, kind)) {
                return false;
            }
            purse -= toll;
            paid += toll;
            kindOfBay.put(bay, kind);
            numbers.removeAll(ofBay(bay));
            numbers.addAll(then);
            return true;
        }

        int changeRange(int from, int to, boolean coming) {
            int moved = 0;
            for (int n = from; n <= to; n++) {
                if (numbers.contains(n) != coming) {
                    if (!change(n, coming)) {
                        return -3;
                    }
                    moved++;
                }
            }
            return moved;
        }

        int docks() {
            atSea = false;
            List<int[]> wanting = new ArrayList<>();
            for (int bay : kindOfBay.keySet()) {
                TreeSet<Integer> some = ofBay(bay);
                int kind = kindOfBay.get(bay);
                if (kind != best(some)) {
                    wanting.add(new int[] {bay, cost(some, kind) - cost(some, best(some))});
                }
            }
            // The sort is stable, so of the same savings the lowest bay stays first.
            wanting.sort((a, b) -> b[1] - a[1]);
            int tolls = 0;
            for (int[] one : wanting) {
                TreeSet<Integer> some = ofBay(one[0]);
                int toll = cost(some, best(some));
                if (purse >= toll) {
                    purse -= toll;
                    paid += toll;
                    tolls += toll;
                    kindOfBay.put(one[0], best(some));
                }
            }
            return tolls;
        }

        int units() {
            int sum = 0;
            for (int bay : kindOfBay.keySet()) {
                sum += cost(ofBay(bay), kindOfBay.get(bay));
            }
            return sum;
        }
    }

    private List<Ship> ships = new ArrayList<>();
    private final List<List<Ship>> history = new ArrayList<>();
    private List<Ship> snapshot = null;
    private String text = "";

    private static List<Ship> copyOf(List<Ship> some) {
        List<Ship> copy = new ArrayList<>();
        for (Ship s : some) {
            copy.add(s.copy());
        }
        return copy;
    }

    private void record() {
        history.add(copyOf(ships));
        if (history.size() > 4) {
            history.remove(0);
        }
    }

    private boolean unknown(int set) {
        return set < 0 || set >= ships.size();
    }

    private static boolean bad(int number) {
        return number < 0 || number > 2047;
    }

    int newSet(int coins) {
        if (coins < 0 || coins > 9999) {
            return -2;
        }
        if (ships.size() == 6) {
            return -3;
        }
        record();
        Ship s = new Ship();
        s.purse = coins;
        ships.add(s);
        return ships.size() - 1;
    }

    int pay(int set, int coins) {
        if (unknown(set)) {
            return -1;
        }
        if (coins < 1 || coins > 9999) {
            return -2;
        }
        if (ships.get(set).purse + coins > 9999) {
            return -3;
        }
        record();
        return ships.get(set).purse += coins;
    }

    int sail(int set) {
        if (unknown(set)) {
            return -1;
        }
        if (ships.get(set).atSea) {
            return -5;
        }
        record();
        ships.get(set).atSea = true;
        return ships.get(set).kindOfBay.size();
    }

    int dock(int set) {
        if (unknown(set)) {
            return -1;
        }
        record();
        return ships.get(set).docks();
    }

    private int settle(int set, Ship changed, int moved) {
        if (moved < 0) {
            return moved;
        }
        if (moved == 0) {
            return -5;
        }
        record();
        ships.set(set, changed);
        return moved;
    }

    private int move(int set, int from, int to, boolean coming) {
        if (unknown(set)) {
            return -1;
        }
        if (bad(from) || bad(to) || to < from) {
            return -2;
        }
        Ship changed = ships.get(set).copy();
        return settle(set, changed, changed.changeRange(from, to, coming));
    }

    int add(int set, int number) {
        int moved = move(set, number, number, true);
        return moved < 0 ? moved : ships.get(set).kindOfBay.get(number / 256);
    }

    int remove(int set, int number) {
        int moved = move(set, number, number, false);
        return moved < 0 ? moved : ships.get(set).ofBay(number / 256).size();
    }

    int addRange(int set, int from, int to) {
        return move(set, from, to, true);
    }

    int removeRange(int set, int from, int to) {
        return move(set, from, to, false);
    }

    private TreeSet<Integer> both(int how, int set, int other) {
        TreeSet<Integer> given = new TreeSet<>();
        for (int n = 0; n < 2048; n++) {
            boolean a = ships.get(set).numbers.contains(n);
            boolean b = ships.get(other).numbers.contains(n);
            if (how == 0 && (a || b) || how == 1 && a && b || how == 2 && a && !b || how == 3 && a != b) {
                given.add(n);
            }
        }
        return given;
    }

    int combine(int how, int into, int set, int other) {
        if (unknown(into) || unknown(set) || unknown(other)) {
            return -1;
        }
        if (how < 0 || how > 3) {
            return -2;
        }
        if (ships.get(into).atSea) {
            return -4;
        }
        record();
        TreeSet<Integer> given = both(how, set, other);
        Ship s = ships.get(into);
        s.numbers = given;
        s.kindOfBay.clear();
        for (int bay = 0; bay < 8; bay++) {
            if (!s.ofBay(bay).isEmpty()) {
                s.kindOfBay.put(bay, Ship.best(s.ofBay(bay)));
            }
        }
        return given.size();
    }

    int type(char character) {
        if (text.length() == 60) {
            return -3;
        }
        text += character;
        return text.length();
    }

    int clearText() {
        int length = text.length();
        text = "";
        return length;
    }

    private static final String NUMBER = "(?:0|[1-9][0-9]{0,3})";
    private static final String RANGE = NUMBER + "(?:-" + NUMBER + ")?";
    private static final String RANGES = RANGE + "(?:," + RANGE + ")*";

    /** Whether something behind this start could still make a text of ranges of it. */
    private static boolean canGoOn(String start) {
        return start.isEmpty() || start.matches(RANGES) || (start + "1").matches(RANGES);
    }

    int readRanges(int set) {
        if (unknown(set)) {
            return -1;
        }
        for (int i = 0; i < text.length(); i++) {
            if (!canGoOn(text.substring(0, i + 1))) {
                return -100 - i;
            }
        }
        if (!text.matches(RANGES)) {
            return -100 - text.length();
        }
        List<int[]> ranges = new ArrayList<>();
        for (String range : text.split(",")) {
            String[] ends = range.split("-");
            int from = Integer.parseInt(ends[0]);
            int to = Integer.parseInt(ends[ends.length - 1]);
            if (bad(from) || bad(to) || to < from) {
                return -2;
            }
            ranges.add(new int[] {from, to});
        }
        Ship changed = ships.get(set).copy();
        int moved = 0;
        for (int[] range : ranges) {
            int came = changed.changeRange(range[0], range[1], true);
            if (came < 0) {
                return -3;
            }
            moved += came;
        }
        return settle(set, changed, moved);
    }

    int undo() {
        if (history.isEmpty()) {
            return -5;
        }
        ships = history.remove(history.size() - 1);
        return history.size();
    }

    int keep() {
        snapshot = copyOf(ships);
        return ships.size();
    }

    int restore() {
        if (snapshot == null) {
            return -5;
        }
        record();
        ships = copyOf(snapshot);
        return ships.size();
    }

    int has(int set, int number) {
        return unknown(set) ? -1 : bad(number) ? -2 : ships.get(set).numbers.contains(number) ? 1 : 0;
    }

    int set(int set, int what) {
        if (unknown(set)) {
            return -1;
        }
        if (what < 0 || what > 9) {
            return -2;
        }
        Ship s = ships.get(set);
        int runs = 0;
        int bestUnits = 0;
        for (int bay : s.kindOfBay.keySet()) {
            runs += Ship.runsOf(s.ofBay(bay));
            bestUnits += Ship.cost(s.ofBay(bay), Ship.best(s.ofBay(bay)));
        }
        int least = s.numbers.isEmpty() ? -5 : s.numbers.first();
        int greatest = s.numbers.isEmpty() ? -5 : s.numbers.last();
        int[] told = {s.numbers.size(), s.kindOfBay.size(), s.units(), s.purse, s.atSea ? 1 : 0,
            s.paid, runs, least, greatest, bestUnits};
        return told[what];
    }

    int boat(int set, int bay, int what) {
        if (unknown(set)) {
            return -1;
        }
        if (bay < 0 || bay > 7 || what < 0 || what > 5) {
            return -2;
        }
        Ship s = ships.get(set);
        if (!s.kindOfBay.containsKey(bay)) {
            return -5;
        }
        TreeSet<Integer> some = s.ofBay(bay);
        int kind = s.kindOfBay.get(bay);
        int best = Ship.best(some);
        int[] told = {kind, some.size(), Ship.runsOf(some), Ship.cost(some, kind), best,
            best == kind ? 0 : Ship.cost(some, best)};
        return told[what];
    }

    int rank(int set, int number) {
        return unknown(set) ? -1 : bad(number) ? -2 : ships.get(set).numbers.headSet(number).size();
    }

    int at(int set, int place) {
        return unknown(set) ? -1 : place < 0 ? -2 : placeIn(new ArrayList<>(ships.get(set).numbers), place);
    }

    private static int placeIn(List<Integer> list, int place) {
        return place < list.size() ? list.get(place) : -5;
    }

    int next(int set, int number) {
        if (unknown(set)) {
            return -1;
        }
        if (bad(number)) {
            return -2;
        }
        Integer found = ships.get(set).numbers.ceiling(number);
        return found == null ? -5 : found;
    }

    int nearest(int set, int number) {
        if (unknown(set)) {
            return -1;
        }
        if (bad(number)) {
            return -2;
        }
        int found = -5;
        for (int n : ships.get(set).numbers) {
            if (found == -5 || Math.abs(n - number) < Math.abs(found - number)) {
                found = n;
            }
        }
        return found;
    }

    int gap(int set, int length) {
        if (unknown(set)) {
            return -1;
        }
        if (length < 1 || length > 2048) {
            return -2;
        }
        for (int n = 0; n + length <= 2048; n++) {
            if (ships.get(set).numbers.subSet(n, n + length).isEmpty()) {
                return n;
            }
        }
        return -5;
    }

    int sizeOf(int how, int set, int other) {
        if (unknown(set) || unknown(other)) {
            return -1;
        }
        return how < 0 || how > 3 ? -2 : both(how, set, other).size();
    }

    private List<Integer> all() {
        List<Integer> all = new ArrayList<>();
        for (Ship s : ships) {
            all.addAll(s.numbers);
        }
        Collections.sort(all);
        return all;
    }

    int ofAll(int place) {
        return place < 0 ? -2 : placeIn(all(), place);
    }

    int most() {
        TreeMap<Integer, Integer> holders = new TreeMap<>();
        for (int n : all()) {
            holders.merge(n, 1, Integer::sum);
        }
        int found = -5;
        for (int n : holders.keySet()) {
            if (found == -5 || holders.get(n) > holders.get(found)) {
                found = n;
            }
        }
        return found;
    }

    int tollToDock(int set) {
        return unknown(set) ? -1 : ships.get(set).copy().docks();
    }

    int count(int what) {
        if (what < 0 || what > 10) {
            return -2;
        }
        int[] told = new int[11];
        told[0] = ships.size();
        for (Ship s : ships) {
            told[1] += s.atSea ? 1 : 0;
            for (int kind : s.kindOfBay.values()) {
                told[2 + kind]++;
            }
            told[5] += s.units();
            told[6] += s.numbers.size();
            told[8] += s.paid;
        }
        told[7] = new TreeSet<>(all()).size();
        told[9] = history.size();
        told[10] = text.length();
        return told[what];
    }
}
