import java.util.Arrays;

/**
 * Sets of numbers that lie in boats of three kinds: a row, bits, or runs.
 *
 * <p>No call makes an object: all rows are made by the constructor and used again, because all
 * calls of a run share one room.
 */
public final class BoatSets {
    public static final int UNKNOWN = -1;
    public static final int BAD_VALUE = -2;
    public static final int FULL = -3;
    public static final int NOT_POSSIBLE = -4;
    public static final int NONE = -5;

    private static final int MOST_SETS = 6;
    private static final int MOST_COINS = 9999;
    private static final int NUMBERS = 2048;
    private static final int BAYS = 8;
    private static final int BAY_NUMBERS = 256;
    private static final int WORDS = 32;
    private static final int WORD_NUMBERS = 64;

    private static final int ROW = 0;
    private static final int BITS = 1;
    private static final int RUNS = 2;
    private static final int ROW_HOLDS = 24;
    private static final int RUNS_HOLD = 8;
    private static final int UNITS_OF_A_NUMBER = 2;
    private static final int UNITS_OF_BITS = 32;
    private static final int UNITS_OF_A_RUN = 3;

    private static final int EITHER = 0;
    private static final int BOTH = 1;
    private static final int FIRST_ALONE = 2;
    private static final int JUST_ONE = 3;

    private static final int MOST_STATES = 4;
    private static final int MOST_CHARACTERS = 60;
    // Every range but the last one takes two characters at least.
    private static final int MOST_RANGES = 30;
    private static final int MOST_DIGITS = 4;
    private static final int NO_FAULT = -1;
    private static final int FAULTS_FROM = -100;

    private final Harbour now;
    private final Harbour snapshot;
    private final History past;
    private final RangeText text;
    // A set is changed here first, so that a change that fails half-way leaves no trace.
    private final Fleet trial;
    private boolean hasSnapshot;

    public BoatSets() {
        now = new Harbour();
        snapshot = new Harbour();
        past = new History();
        text = new RangeText();
        trial = new Fleet();
        hasSnapshot = false;
    }

    // ---- sets

    public int newSet(int coins) {
        if (coins < 0 || coins > MOST_COINS) {
            return BAD_VALUE;
        }
        if (now.sets >= MOST_SETS) {
            return FULL;
        }
        past.push(now);
        return now.open(coins);
    }

    public int pay(int set, int coins) {
        if (!isSet(set)) {
            return UNKNOWN;
        }
        if (coins < 1 || coins > MOST_COINS) {
            return BAD_VALUE;
        }
        Fleet fleet = now.fleets[set];
        if (fleet.purse + coins > MOST_COINS) {
            return FULL;
        }
        past.push(now);
        fleet.purse += coins;
        return fleet.purse;
    }

    public int sail(int set) {
        if (!isSet(set)) {
            return UNKNOWN;
        }
        Fleet fleet = now.fleets[set];
        if (fleet.atSea) {
            return NONE;
        }
        past.push(now);
        fleet.atSea = true;
        return fleet.boats();
    }

    public int dock(int set) {
        if (!isSet(set)) {
            return UNKNOWN;
        }
        past.push(now);
        return now.fleets[set].enterHarbour();
    }

    // ---- numbers

    public int add(int set, int number) {
        int moved = moveRange(set, number, number, true);
        if (moved < 0) {
            return moved;
        }
        return now.fleets[set].kinds[number / BAY_NUMBERS];
    }

    public int remove(int set, int number) {
        int moved = moveRange(set, number, number, false);
        if (moved < 0) {
            return moved;
        }
        return now.fleets[set].sizes[number / BAY_NUMBERS];
    }

    public int addRange(int set, int from, int to) {
        return moveRange(set, from, to, true);
    }

    public int removeRange(int set, int from, int to) {
        return moveRange(set, from, to, false);
    }

    public int combine(int how, int into, int set, int other) {
        if (!isSet(into) || !isSet(set) || !isSet(other)) {
            return UNKNOWN;
        }
        if (!isHow(how)) {
            return BAD_VALUE;
        }
        Fleet fleet = now.fleets[into];
        if (fleet.atSea) {
            return NOT_POSSIBLE;
        }
        trial.copyFrom(fleet);
        trial.fillWith(how, now.fleets[set], now.fleets[other]);
        past.push(now);
        fleet.copyFrom(trial);
        return fleet.numbers();
    }

    // ---- texts

    public int type(char character) {
        if (text.length >= MOST_CHARACTERS) {
            return FULL;
        }
        text.characters[text.length] = character;
        text.length++;
        return text.length;
    }

    public int clearText() {
        int length = text.length;
        text.length = 0;
        return length;
    }

    public int readRanges(int set) {
        if (!isSet(set)) {
            return UNKNOWN;
        }
        int fault = text.read();
        if (fault != NO_FAULT) {
            return FAULTS_FROM - fault;
        }
        if (!text.hasGoodValues()) {
            return BAD_VALUE;
        }
        trial.copyFrom(now.fleets[set]);
        int moved = 0;
        for (int range = 0; range < text.ranges; range++) {
            int came = trial.move(text.firsts[range], text.lasts[range], true);
            if (came < 0) {
                return came;
            }
            moved += came;
        }
        return settleTrial(set, moved);
    }

    // ---- history

    public int undo() {
        if (past.size == 0) {
            return NONE;
        }
        past.popInto(now);
        return past.size;
    }

    public int keep() {
        snapshot.copyFrom(now);
        hasSnapshot = true;
        return now.sets;
    }

    public int restore() {
        if (!hasSnapshot) {
            return NONE;
        }
        past.push(now);
        now.copyFrom(snapshot);
        return now.sets;
    }

    // ---- what is told

    public int has(int set, int number) {
        if (!isSet(set)) {
            return UNKNOWN;
        }
        if (!isNumber(number)) {
            return BAD_VALUE;
        }
        return now.fleets[set].holds(number) ? 1 : 0;
    }

    public int set(int set, int what) {
        if (!isSet(set)) {
            return UNKNOWN;
        }
        Fleet fleet = now.fleets[set];
        switch (what) {
            case 0:
                return fleet.numbers();
            case 1:
                return fleet.boats();
            case 2:
                return fleet.units();
            case 3:
                return fleet.purse;
            case 4:
                return fleet.atSea ? 1 : 0;
            case 5:
                return fleet.paid;
            case 6:
                return fleet.allRuns();
            case 7:
                return fleet.numberAt(0);
            case 8:
                return fleet.numberAt(fleet.numbers() - 1);
            case 9:
                return fleet.bestUnits();
            default:
                return BAD_VALUE;
        }
    }

    public int boat(int set, int bay, int what) {
        if (!isSet(set)) {
            return UNKNOWN;
        }
        if (bay < 0 || bay >= BAYS || what < 0 || what > 5) {
            return BAD_VALUE;
        }
        Fleet fleet = now.fleets[set];
        if (fleet.sizes[bay] == 0) {
            return NONE;
        }
        switch (what) {
            case 0:
                return fleet.kinds[bay];
            case 1:
                return fleet.sizes[bay];
            case 2:
                return fleet.runs[bay];
            case 3:
                return fleet.unitsAs(bay, fleet.kinds[bay]);
            case 4:
                return fleet.bestKind(bay);
            default:
                return fleet.tollToBest(bay);
        }
    }

    public int rank(int set, int number) {
        if (!isSet(set)) {
            return UNKNOWN;
        }
        if (!isNumber(number)) {
            return BAD_VALUE;
        }
        return now.fleets[set].numbersBelow(number);
    }

    public int at(int set, int place) {
        if (!isSet(set)) {
            return UNKNOWN;
        }
        if (place < 0) {
            return BAD_VALUE;
        }
        return now.fleets[set].numberAt(place);
    }

    public int next(int set, int number) {
        if (!isSet(set)) {
            return UNKNOWN;
        }
        if (!isNumber(number)) {
            return BAD_VALUE;
        }
        return now.fleets[set].firstFrom(number);
    }

    public int nearest(int set, int number) {
        if (!isSet(set)) {
            return UNKNOWN;
        }
        if (!isNumber(number)) {
            return BAD_VALUE;
        }
        Fleet fleet = now.fleets[set];
        int below = fleet.numberAt(fleet.numbersBelow(number) - 1);
        int above = fleet.firstFrom(number);
        if (below == NONE) {
            return above;
        }
        if (above == NONE) {
            return below;
        }
        return above - number < number - below ? above : below;
    }

    public int gap(int set, int length) {
        if (!isSet(set)) {
            return UNKNOWN;
        }
        if (length < 1 || length > NUMBERS) {
            return BAD_VALUE;
        }
        return now.fleets[set].firstGap(length);
    }

    public int sizeOf(int how, int set, int other) {
        if (!isSet(set) || !isSet(other)) {
            return UNKNOWN;
        }
        if (!isHow(how)) {
            return BAD_VALUE;
        }
        int size = 0;
        for (int word = 0; word < WORDS; word++) {
            size += Long.bitCount(join(how, now.fleets[set].words[word], now.fleets[other].words[word]));
        }
        return size;
    }

    public int ofAll(int place) {
        if (place < 0) {
            return BAD_VALUE;
        }
        return now.numberOfAll(place);
    }

    public int most() {
        return now.mostHeld();
    }

    public int tollToDock(int set) {
        if (!isSet(set)) {
            return UNKNOWN;
        }
        trial.copyFrom(now.fleets[set]);
        return trial.enterHarbour();
    }

    public int count(int what) {
        switch (what) {
            case 0:
                return now.sets;
            case 1:
                return now.setsAtSea();
            case 2:
                return now.boatsOfKind(ROW);
            case 3:
                return now.boatsOfKind(BITS);
            case 4:
                return now.boatsOfKind(RUNS);
            case 5:
                return now.units();
            case 6:
                return now.numbers();
            case 7:
                return now.differentNumbers();
            case 8:
                return now.tollsPaid();
            case 9:
                return past.size;
            case 10:
                return text.length;
            default:
                return BAD_VALUE;
        }
    }

    // ---- helpers

    private boolean isSet(int set) {
        return set >= 0 && set < now.sets;
    }

    private static boolean isNumber(int number) {
        return number >= 0 && number < NUMBERS;
    }

    private static boolean isHow(int how) {
        return how >= EITHER && how <= JUST_ONE;
    }

    private int moveRange(int set, int from, int to, boolean coming) {
        if (!isSet(set)) {
            return UNKNOWN;
        }
        if (!isNumber(from) || !isNumber(to) || to < from) {
            return BAD_VALUE;
        }
        trial.copyFrom(now.fleets[set]);
        return settleTrial(set, trial.move(from, to, coming));
    }

    /** Makes the trial the set, as one act, unless it failed or moved no number. */
    private int settleTrial(int set, int moved) {
        if (moved < 0) {
            return moved;
        }
        if (moved == 0) {
            return NONE;
        }
        past.push(now);
        now.fleets[set].copyFrom(trial);
        return moved;
    }

    /** What two sets give together, for 64 numbers at once. */
    private static long join(int how, long one, long other) {
        switch (how) {
            case EITHER:
                return one | other;
            case BOTH:
                return one & other;
            case FIRST_ALONE:
                return one & ~other;
            default:
                return one ^ other;
        }
    }

    /** One set: its numbers, its boats, its purse. */
    private static final class Fleet {
        final long[] words;
        // A bay without a boat stands as a row of no numbers, which takes no units.
        final int[] kinds;
        final int[] sizes;
        final int[] runs;
        int purse;
        int paid;
        boolean atSea;

        Fleet() {
            words = new long[WORDS];
            kinds = new int[BAYS];
            sizes = new int[BAYS];
            runs = new int[BAYS];
        }

        void begin(int coins) {
            clearNumbers();
            purse = coins;
            paid = 0;
            atSea = false;
        }

        void clearNumbers() {
            Arrays.fill(words, 0L);
            Arrays.fill(kinds, ROW);
            Arrays.fill(sizes, 0);
            Arrays.fill(runs, 0);
        }

        void copyFrom(Fleet other) {
            System.arraycopy(other.words, 0, words, 0, WORDS);
            System.arraycopy(other.kinds, 0, kinds, 0, BAYS);
            System.arraycopy(other.sizes, 0, sizes, 0, BAYS);
            System.arraycopy(other.runs, 0, runs, 0, BAYS);
            purse = other.purse;
            paid = other.paid;
            atSea = other.atSea;
        }

        boolean holds(int number) {
            if (!isNumber(number)) {
                return false;
            }
            return (words[number / WORD_NUMBERS] >>> number % WORD_NUMBERS & 1L) != 0L;
        }

        /** Puts a number in that is not there, or takes one out that is, whatever the boat can hold. */
        void flip(int number) {
            if (!isNumber(number)) {
                return;
            }
            int bay = number / BAY_NUMBERS;
            int change = holds(number) ? -1 : 1;
            words[number / WORD_NUMBERS] ^= 1L << number % WORD_NUMBERS;
            sizes[bay] += change;
            // Alone, the number is a run of its own; beside one run it is part of it; between two it joins them.
            runs[bay] += change * (1 - neighboursInBay(number));
        }

        int neighboursInBay(int number) {
            int place = number % BAY_NUMBERS;
            int neighbours = 0;
            if (place > 0 && holds(number - 1)) {
                neighbours++;
            }
            if (place < BAY_NUMBERS - 1 && holds(number + 1)) {
                neighbours++;
            }
            return neighbours;
        }

        /** Lets the numbers of a range come or go; answers how many did, or FULL and is half-changed then. */
        int move(int from, int to, boolean coming) {
            int first = Math.max(from, 0);
            int last = Math.min(to, NUMBERS - 1);
            int moved = 0;
            for (int number = first; number <= last; number++) {
                if (holds(number) != coming) {
                    flip(number);
                    if (!adaptBoat(number / BAY_NUMBERS)) {
                        return FULL;
                    }
                    moved++;
                }
            }
            return moved;
        }

        /** Looks at a boat whose numbers have changed; answers whether it can hold them. */
        boolean adaptBoat(int bay) {
            if (sizes[bay] == 0) {
                kinds[bay] = ROW;
                return true;
            }
            if (!atSea) {
                becomeBest(bay);
            }
            return canHold(bay, kinds[bay]);
        }

        /** Makes a boat one of the best kind if the purse has the toll; answers the toll that is paid. */
        int becomeBest(int bay) {
            int best = bestKind(bay);
            int toll = unitsAs(bay, best);
            if (best == kinds[bay] || toll > purse) {
                return 0;
            }
            purse -= toll;
            paid += toll;
            kinds[bay] = best;
            return toll;
        }

        /** Docks; answers the tolls that are paid. */
        int enterHarbour() {
            atSea = false;
            int tolls = 0;
            int seen = 0;
            for (int turn = 0; turn < BAYS; turn++) {
                int bay = baySavingMost(seen);
                if (bay != NONE) {
                    seen |= 1 << bay;
                    tolls += becomeBest(bay);
                }
            }
            return tolls;
        }

        /** Of the boats not of their best kind and not seen yet, the one that saves the most. */
        int baySavingMost(int seen) {
            int found = NONE;
            int most = -1;
            for (int bay = 0; bay < BAYS; bay++) {
                int best = bestKind(bay);
                int saved = unitsAs(bay, kinds[bay]) - unitsAs(bay, best);
                if ((seen >> bay & 1) == 0 && kinds[bay] != best && saved > most) {
                    found = bay;
                    most = saved;
                }
            }
            return found;
        }

        boolean canHold(int bay, int kind) {
            switch (kind) {
                case ROW:
                    return sizes[bay] <= ROW_HOLDS;
                case RUNS:
                    return runs[bay] <= RUNS_HOLD;
                default:
                    return true;
            }
        }

        int unitsAs(int bay, int kind) {
            switch (kind) {
                case ROW:
                    return UNITS_OF_A_NUMBER * sizes[bay];
                case RUNS:
                    return UNITS_OF_A_RUN * runs[bay];
                default:
                    return UNITS_OF_BITS;
            }
        }

        int bestKind(int bay) {
            int best = BITS;
            if (canHold(bay, ROW) && unitsAs(bay, ROW) <= unitsAs(bay, BITS)) {
                best = ROW;
            }
            if (canHold(bay, RUNS) && unitsAs(bay, RUNS) < unitsAs(bay, best)) {
                best = RUNS;
            }
            return best;
        }

        int tollToBest(int bay) {
            int best = bestKind(bay);
            return best == kinds[bay] ? 0 : unitsAs(bay, best);
        }

        /** Takes the numbers that two other objects give; neither may be this one. */
        void fillWith(int how, Fleet one, Fleet other) {
            clearNumbers();
            for (int word = 0; word < WORDS; word++) {
                long joined = join(how, one.words[word], other.words[word]);
                for (int bit = 0; bit < WORD_NUMBERS; bit++) {
                    if ((joined >>> bit & 1L) != 0L) {
                        flip(word * WORD_NUMBERS + bit);
                    }
                }
            }
            for (int bay = 0; bay < BAYS; bay++) {
                kinds[bay] = bestKind(bay);
            }
        }

        int numbers() {
            int sum = 0;
            for (int bay = 0; bay < BAYS; bay++) {
                sum += sizes[bay];
            }
            return sum;
        }

        int boats() {
            return boatsOfKind(ROW) + boatsOfKind(BITS) + boatsOfKind(RUNS);
        }

        int boatsOfKind(int kind) {
            int sum = 0;
            for (int bay = 0; bay < BAYS; bay++) {
                if (sizes[bay] > 0 && kinds[bay] == kind) {
                    sum++;
                }
            }
            return sum;
        }

        int units() {
            int sum = 0;
            for (int bay = 0; bay < BAYS; bay++) {
                sum += unitsAs(bay, kinds[bay]);
            }
            return sum;
        }

        int bestUnits() {
            int sum = 0;
            for (int bay = 0; bay < BAYS; bay++) {
                sum += unitsAs(bay, bestKind(bay));
            }
            return sum;
        }

        int allRuns() {
            int sum = 0;
            for (int bay = 0; bay < BAYS; bay++) {
                sum += runs[bay];
            }
            return sum;
        }

        int numbersBelow(int limit) {
            if (!isNumber(limit)) {
                return 0;
            }
            int last = limit / WORD_NUMBERS;
            int sum = 0;
            for (int word = 0; word < last; word++) {
                sum += Long.bitCount(words[word]);
            }
            long below = (1L << limit % WORD_NUMBERS) - 1L;
            return sum + Long.bitCount(words[last] & below);
        }

        /** The number at a place from the least on; NONE if there is no such place. */
        int numberAt(int place) {
            if (place < 0) {
                return NONE;
            }
            int left = place;
            for (int word = 0; word < WORDS; word++) {
                int held = Long.bitCount(words[word]);
                if (left < held) {
                    return word * WORD_NUMBERS + placeOfBit(words[word], left);
                }
                left -= held;
            }
            return NONE;
        }

        /** Where the lowest bit of a word stands when so many lower ones are passed over. */
        static int placeOfBit(long word, int passed) {
            long rest = word;
            for (int bit = 0; bit < passed; bit++) {
                rest &= rest - 1L;
            }
            return Long.bitCount((rest & -rest) - 1L);
        }

        int firstFrom(int number) {
            return numberAt(numbersBelow(number));
        }

        int firstGap(int length) {
            int start = 0;
            for (int number = 0; number < NUMBERS; number++) {
                if (holds(number)) {
                    start = number + 1;
                } else if (number - start + 1 >= length) {
                    return start;
                }
            }
            return NONE;
        }
    }

    /** A state: all sets. */
    private static final class Harbour {
        final Fleet[] fleets;
        int sets;

        Harbour() {
            fleets = new Fleet[MOST_SETS];
            for (int set = 0; set < MOST_SETS; set++) {
                fleets[set] = new Fleet();
            }
        }

        void copyFrom(Harbour other) {
            sets = other.sets;
            for (int set = 0; set < sets; set++) {
                fleets[set].copyFrom(other.fleets[set]);
            }
        }

        int open(int coins) {
            if (sets >= MOST_SETS) {
                return FULL;
            }
            fleets[sets].begin(coins);
            sets++;
            return sets - 1;
        }

        int setsAtSea() {
            int sum = 0;
            for (int set = 0; set < sets; set++) {
                sum += fleets[set].atSea ? 1 : 0;
            }
            return sum;
        }

        int boatsOfKind(int kind) {
            int sum = 0;
            for (int set = 0; set < sets; set++) {
                sum += fleets[set].boatsOfKind(kind);
            }
            return sum;
        }

        int units() {
            int sum = 0;
            for (int set = 0; set < sets; set++) {
                sum += fleets[set].units();
            }
            return sum;
        }

        int numbers() {
            int sum = 0;
            for (int set = 0; set < sets; set++) {
                sum += fleets[set].numbers();
            }
            return sum;
        }

        int tollsPaid() {
            int sum = 0;
            for (int set = 0; set < sets; set++) {
                sum += fleets[set].paid;
            }
            return sum;
        }

        int differentNumbers() {
            int sum = 0;
            for (int word = 0; word < WORDS; word++) {
                sum += Long.bitCount(heldByAny(word));
            }
            return sum;
        }

        long heldByAny(int word) {
            long held = 0L;
            for (int set = 0; set < sets; set++) {
                held |= fleets[set].words[word];
            }
            return held;
        }

        int holders(int number) {
            int sum = 0;
            for (int set = 0; set < sets; set++) {
                sum += fleets[set].holds(number) ? 1 : 0;
            }
            return sum;
        }

        int mostHeld() {
            int found = NONE;
            int most = 0;
            for (int word = 0; word < WORDS; word++) {
                // Most words are empty, and their numbers need no look.
                int end = heldByAny(word) == 0L ? 0 : WORD_NUMBERS;
                for (int bit = 0; bit < end; bit++) {
                    int number = word * WORD_NUMBERS + bit;
                    int holders = holders(number);
                    if (holders > most) {
                        found = number;
                        most = holders;
                    }
                }
            }
            return found;
        }

        int numberOfAll(int place) {
            int left = place;
            for (int word = 0; word < WORDS; word++) {
                int end = heldByAny(word) == 0L ? 0 : WORD_NUMBERS;
                for (int bit = 0; bit < end; bit++) {
                    int number = word * WORD_NUMBERS + bit;
                    left -= holders(number);
                    if (left < 0) {
                        return number;
                    }
                }
            }
            return NONE;
        }
    }

    /** The states before the latest acts, the oldest first. */
    private static final class History {
        final Harbour[] states;
        int size;

        History() {
            states = new Harbour[MOST_STATES];
            for (int state = 0; state < MOST_STATES; state++) {
                states[state] = new Harbour();
            }
        }

        void push(Harbour state) {
            if (size >= MOST_STATES) {
                dropOldest();
            }
            states[size].copyFrom(state);
            size++;
        }

        void dropOldest() {
            Harbour oldest = states[0];
            for (int state = 1; state < MOST_STATES; state++) {
                states[state - 1] = states[state];
            }
            // Its rows are used again for the next state.
            states[MOST_STATES - 1] = oldest;
            size = MOST_STATES - 1;
        }

        void popInto(Harbour state) {
            if (size <= 0) {
                return;
            }
            size--;
            state.copyFrom(states[size]);
        }
    }

    /** The text, and the ranges that were read from it last. */
    private static final class RangeText {
        final char[] characters;
        final int[] firsts;
        final int[] lasts;
        int length;
        int ranges;

        RangeText() {
            characters = new char[MOST_CHARACTERS];
            firsts = new int[MOST_RANGES];
            lasts = new int[MOST_RANGES];
        }

        /** Reads the ranges; answers the fault of the text, or NO_FAULT. */
        int read() {
            ranges = 0;
            int digits = 0;
            int first = 0;
            int value = 0;
            boolean second = false;
            for (int index = 0; index < length; index++) {
                char character = characters[index];
                if (character >= '0' && character <= '9') {
                    if (digits == MOST_DIGITS || digits == 1 && value == 0) {
                        return index;
                    }
                    value = 10 * value + (character - '0');
                    digits++;
                } else if (character == '-' && digits > 0 && !second) {
                    first = value;
                    second = true;
                    value = 0;
                    digits = 0;
                } else if (character == ',' && digits > 0) {
                    noteRange(second ? first : value, value);
                    second = false;
                    value = 0;
                    digits = 0;
                } else {
                    return index;
                }
            }
            if (digits == 0) {
                return length;
            }
            noteRange(second ? first : value, value);
            return NO_FAULT;
        }

        void noteRange(int first, int last) {
            if (ranges < MOST_RANGES) {
                firsts[ranges] = first;
                lasts[ranges] = last;
                ranges++;
            }
        }

        boolean hasGoodValues() {
            for (int range = 0; range < ranges; range++) {
                if (!isNumber(firsts[range]) || !isNumber(lasts[range]) || lasts[range] < firsts[range]) {
                    return false;
                }
            }
            return true;
        }
    }
}
