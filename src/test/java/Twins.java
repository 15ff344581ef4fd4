import java.util.function.Consumer;
import java.util.function.ToIntFunction;

/** Two objects that are made by the same calls, of which one gets a call more. */
final class Twins {
    // Four states to undo, then the snapshot and the text.
    private static final int WAYS = 7;

    private Twins() {
    }

    /** The call more answers what is due, and in whatever way both go on then, they are alike. */
    static void changesNothing(String call, Consumer<BoatSets> making, ToIntFunction<BoatSets> more, int due) {
        for (int way = 0; way < WAYS; way++) {
            BoatSets one = made(making);
            Check.due(call, more.applyAsInt(one), due);
            isAlike(call + " and then way " + way, goOn(one, way), goOn(made(making), way));
        }
    }

    /** The call more answers what is due and records one state, the one that was before it. */
    static void recordsOne(String act, Consumer<BoatSets> making, ToIntFunction<BoatSets> more, int due) {
        for (int way = 0; way < WAYS; way++) {
            BoatSets one = made(making);
            int states = one.count(9);
            Check.due(act, more.applyAsInt(one), due);
            Check.due(act + ": states", one.count(9), states + 1);
            Check.due(act + ": undo", one.undo(), states);
            isAlike(act + ", undone, and then way " + way, goOn(one, way), goOn(made(making), way));
        }
    }

    private static BoatSets made(Consumer<BoatSets> making) {
        BoatSets x = new BoatSets();
        making.accept(x);
        return x;
    }

    private static void isAlike(String what, String one, String other) {
        if (!one.equals(other)) {
            System.out.println("  with it    " + one);
            System.out.println("  without it " + other);
        }
        Check.that(what + " is as without it", one.equals(other));
    }

    private static String goOn(BoatSets x, int way) {
        StringBuilder answers = new StringBuilder();
        for (int i = 0; i < way && i <= 4; i++) {
            answers.append(x.undo()).append(' ');
        }
        if (way == 5) {
            answers.append(x.restore()).append(' ');
        }
        if (way == 6) {
            answers.append(x.readRanges(0)).append(' ');
        }
        return answers.append(": ").append(Told.of(x)).toString();
    }
}
