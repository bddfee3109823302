import java.util.ArrayList;
import java.util.List;

/**
 * Calls that an object has had before a case begins: much happens in them, none is refused, and behind them the object is as
 * a new one. With them a case comes as late in an object's life as it may.
 */
final class EarlierLife {
    private static final int MOST_CALLS = 512;

    /** One round; back() leads to the next one, so that it may be cut anywhere. */
    private static final String[] ROUND = {
        "seats(0, 2)", "seats(2, 4)", "seats(5, 0)", "seats(7, 1)",
        "person(0, 0)", "person(3, 1)", "person(5, 2)", "person(2, 2)", "person(6, 2)", "person(0, 2)", "person(4, 3)",
        "person(1, 3)", "person(0, 4)", "person(2, 4)",
        "change(0, 2, 70)", "change(1, 4, 9990)", "change(6, 3, 2)", "change(8, 0, 5)", "change(9, 2, 98)",
        "grudge(2, 0)", "grudge(3, 0)", "grudge(6, 1)", "grudge(5, 4)", "grudge(9, 2)", "gift(3, 60)", "gift(9, 75)",
        "law(0, 1)", "law(1, 2)", "law(2, 70)", "exchange(4, 6)", "exchange(4, 6)",
        "tremble()", "against(0)", "lacks(0)", "wants(2, 0)", "heir(1)", "safe()", "sits(0)", "plot(0, 1)",
        "ahead(2, 1)", "rises(1, 2)", "worth(7, 3, 2)", "least(9, 1)", "best(1, 1)", "partsFor(1)", "kindFor(8, 1)",
        "undo(1, 1)", "months(1)", "put(0, 6)", "put(0, -1)", "months(11)", "hold(0, 1)", "hold(9, 9)", "as(0, 2)",
        "seed(-5)", "rumours(12)", "count(3)", "count(7)",
        "feed(1886545252, 4)", "feed(1701978161, 4)", "wipe()",
        "feed(1819244897, 4)", "feed(1814063470, 4)", "feed(8246, 2)", "text()", "feed(997482855, 4)",
        "sheet(0, 8, 40)", "sheet(1, 16, 3)", "sheet(3, 8, 11)", "write(0, 0, 255)", "write(0, 39, 7)", "write(3, 0, 3)",
        "copy(0, 0, 3, 5, 6)", "load(3)", "judge(1)", "sheet(1, 0, 40)", "months(60)", "gift(1, 1)", "status(-1)",
        "of(1, 4)", "rankOf(0, 4)",
        "back()", "wipe()",
    };
    private static final String[] CLOSE = {
        "back()", "tear()", "wipe()", "sheet(0, 0, 0)", "sheet(1, 0, 0)", "sheet(2, 0, 0)", "sheet(3, 0, 0)",
    };

    private static final List<List<Told>> BY_LENGTH = new ArrayList<>();

    private EarlierLife() {
    }

    static List<Told> of(int calls) {
        if (BY_LENGTH.isEmpty()) {
            for (int n = 0; n <= MOST_CALLS; n++) {
                BY_LENGTH.add(made(n));
            }
        }
        return BY_LENGTH.get(calls);
    }

    /** Calls of a whole life that are refused: there must be none, or status() would tell of them. */
    static List<String> refused() {
        TwoBelow x = new TwoBelow();
        List<String> words = new ArrayList<>();
        for (Told call : of(MOST_CALLS)) {
            int answer = call.go(x);
            if (answer <= Edge.BEYOND && answer >= Edge.SIZE) {
                words.add(call.words + " answered " + answer);
            }
        }
        return words;
    }

    private static List<Told> made(int calls) {
        List<Told> life = new ArrayList<>();
        int middle = calls - 1 - CLOSE.length;
        if (middle < 0) {
            // Too short for something to be kept and brought back.
            for (int i = 0; i < calls; i++) {
                life.add(Told.of("tremble()"));
            }
            return life;
        }
        life.add(Told.of("image()"));
        for (int i = 0; i < middle; i++) {
            life.add(Told.of(ROUND[i % ROUND.length]));
        }
        for (String call : CLOSE) {
            life.add(Told.of(call));
        }
        return life;
    }
}
