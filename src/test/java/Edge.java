import java.util.ArrayList;
import java.util.List;
import java.util.function.Consumer;

/**
 * A run of calls on one object, told in words so that it can be gone again: what a call leaves behind is held against
 * a twin that never had it, by looking at all that can be seen of both. Looking may spoil a twin, never the run itself.
 *
 * A case is gone twice: on new objects, and on objects with an earlier life, so that the last call of each is its 512th.
 */
final class Edge {
    static final int BEYOND = -1000001;
    static final int FULL = -1000002;
    static final int KIND = -1000003;
    static final int NONE = -1000004;
    static final int STATE = -1000005;
    static final int MISSING = -1000006;
    static final int SIZE = -1000007;
    static final int MIN = Integer.MIN_VALUE;
    static final int MAX = Integer.MAX_VALUE;

    /** What later calls on an object answer is free. */
    private static final int MOST_CALLS = 512;
    private static final int PERSONS = 12;
    private static final int SHEETS = 4;

    static int checks = 0;
    static final List<String> FAULTS = new ArrayList<>();

    /** How many calls each run of a case has, seen when it is gone for the first time. */
    private static final List<Integer> LENGTHS = new ArrayList<>();
    private static boolean isLate;
    private static int runs;

    private final int number;
    private final TwoBelow object = new TwoBelow();
    private final List<Told> log = new ArrayList<>();

    private Edge() {
        number = runs;
        runs++;
        if (!isLate) {
            LENGTHS.add(0);
        } else if (number < LENGTHS.size()) {
            EarlierLife.of(MOST_CALLS - LENGTHS.get(number)).forEach(call -> call.go(object));
        } else {
            FAULTS.add("the case has more runs than the first time");
        }
    }

    /** A case begins: on new objects, or for the second time, on objects that have an earlier life. */
    static void begin(boolean late) {
        isLate = late;
        runs = 0;
        if (!late) {
            LENGTHS.clear();
        }
    }

    // ---- where a run begins

    static Edge fresh(String... calls) {
        return new Edge().then(calls);
    }

    /** Ranks with four seats each, and persons of a kind in these ranks. */
    static Edge people(int kind, int... ranks) {
        Edge run = new Edge();
        for (int r = 0; r < 8; r++) {
            run.then("seats(" + r + ", 4)");
        }
        for (int rank : ranks) {
            run.then("person(" + kind + ", " + rank + ")");
        }
        return run;
    }

    /**
     * Something of all that there is: a refused call could change any of it. 7 has been turned out; 0 and 1 are in
     * rank 0, 2, 3 and 4 in rank 1, 5 in rank 2 and 6 in rank 3; 5 will turn out 0.
     */
    static Edge court(String... calls) {
        Edge run = fresh("seats(0, 2)", "seats(2, 4)", "seats(5, 0)", "seats(7, 1)",
                "person(0, 0)", "person(1, 1)", "person(2, 2)", "person(3, 2)", "person(4, 2)", "person(5, 3)",
                "person(6, 4)", "person(0, 0)",
                "change(0, 2, 61)", "change(1, 3, 2)", "change(3, 4, 450)", "change(4, 3, 1)", "change(6, 2, 44)",
                "change(7, 4, 400)", "grudge(2, 0)", "gift(2, 10)", "grudge(3, 7)", "gift(3, 45)", "grudge(4, 7)",
                "grudge(5, 6)", "law(0, 1)", "law(1, 2)", "law(2, 40)", "hold(0, 2)", "hold(9, 7)",
                "image()", "months(1)", "seed(-77)", "hold(3, 1)", "hold(0, 6)", "grudge(6, 5)", "gift(6, 3)",
                "sheet(0, 8, 5)", "sheet(1, 16, 3)", "sheet(2, 32, 13)");
        for (int i = 0; i < 5; i++) {
            run.then("write(0, " + i + ", " + (4 - i == i ? -1 : 4 - i) + ")");
        }
        run.then("write(1, 0, 7)", "write(2, 0, 3)", "write(2, 12, 9)");
        // Findings of each sort, so that a count that is set anew would be seen.
        run.attempt("rankOf(0, 9)", "as(3, 5)", "heir(6)", "put(7, -1)", "load(3)", "sheet(3, 8, -1)");
        return run.tape("price 777;sly in 6").then(calls);
    }

    // ---- going on

    /** Calls that make the state: none of them may be refused. */
    Edge then(String... calls) {
        for (String call : calls) {
            int answer = go(call);
            if (answer <= BEYOND && answer >= SIZE) {
                FAULTS.add(call + ", which makes the state, answered " + answer);
            }
        }
        return this;
    }

    private void attempt(String... calls) {
        for (String call : calls) {
            go(call);
        }
    }

    /** A text goes behind what is on the tape. */
    Edge tape(String text) {
        for (int at = 0; at < text.length(); at += 4) {
            int n = Math.min(4, text.length() - at);
            int bytes = 0;
            for (int i = 0; i < n; i++) {
                bytes = bytes << 8 | text.charAt(at + i);
            }
            then("feed(" + bytes + ", " + n + ")");
        }
        return this;
    }

    /** Months go until it is that one. */
    Edge late(int month) {
        for (int left = month - go("count(0)"); left > 0; left -= 60) {
            then("months(" + Math.min(60, left) + ")");
        }
        return this;
    }

    // ---- what is due

    Edge answers(String call, int want) {
        due(call, want, go(call));
        return this;
    }

    /** It answers so, and nothing at all changes. */
    Edge asks(String call, int want) {
        List<String> before = look(log);
        answers(call, want);
        same(call + " changes something", before, look(log));
        return this;
    }

    /** It is refused with that finding, and nothing changes but status(). */
    Edge refuses(String call, int finding) {
        List<String> before = look(log);
        answers(call, finding);
        countOne(before, 0);
        countOne(before, 1 + BEYOND - finding);
        same(call + " was refused, but", before, look(log));
        return this;
    }

    /** The same for each of these values in the place of the question mark. */
    Edge refusesEach(String call, int finding, int... values) {
        for (int v : values) {
            refuses(call.replace("?", Integer.toString(v)), finding);
        }
        return this;
    }

    /** A text with a FAULT at that place: nothing changes but that the tape is empty; it is no finding. */
    Edge faults(String text, int place) {
        then("wipe()");
        tape(text);
        List<Told> wiped = new ArrayList<>(log);
        wiped.add(Told.of("wipe()"));
        answers("text()", -1 - place);
        same("a text with a FAULT (" + text + ") changes something", look(wiped), look(log));
        return this;
    }

    /** A text that stands, with so many items. */
    Edge reads(String text, int items) {
        then("wipe()");
        tape(text);
        answers("text()", items);
        answers("count(6)", 0);
        return this;
    }

    private void due(String what, int want, int got) {
        checks++;
        if (want != got) {
            FAULTS.add(what + " answered " + got + ", due is " + want);
        }
    }

    private static void countOne(List<String> lines, int i) {
        String[] parts = lines.get(i).split(" -> ");
        lines.set(i, parts[0] + " -> " + (Integer.parseInt(parts[1]) + 1));
    }

    private static void same(String what, List<String> before, List<String> behind) {
        checks++;
        for (int i = 0; i < Math.max(before.size(), behind.size()); i++) {
            String a = i < before.size() ? before.get(i) : "nothing";
            String b = i < behind.size() ? behind.get(i) : "nothing";
            if (!a.equals(b)) {
                FAULTS.add(what + ": " + b + ", due is " + a);
                return;
            }
        }
    }

    private int go(String call) {
        Told told = Told.of(call);
        log.add(told);
        if (!isLate) {
            LENGTHS.set(number, log.size());
        }
        return told.go(object);
    }

    // ---- all that can be seen

    private static final List<Consumer<Looker>> LOOKS = looks();
    private static List<Told> seenBehind = new ArrayList<>();
    private static boolean seenLate;
    private static List<String> seen = new ArrayList<>();

    /** What can be seen behind these calls, a line for each question; first the statuses. */
    private static List<String> look(List<Told> calls) {
        if (isLate != seenLate || !calls.equals(seenBehind)) {
            seen = new ArrayList<>();
            for (Consumer<Looker> each : LOOKS) {
                seen.addAll(isLate ? lookLate(calls, each) : looker(0, calls, each).lines);
            }
            seenBehind = new ArrayList<>(calls);
            seenLate = isLate;
        }
        return new ArrayList<>(seen);
    }

    /** The same, so that the last question is an object's last call. */
    private static List<String> lookLate(List<Told> calls, Consumer<Looker> each) {
        int room = MOST_CALLS - calls.size() - looker(0, calls, each).lines.size();
        if (room < 0) {
            FAULTS.add("the test itself needs " + -room + " calls too many on one object");
            return List.of();
        }
        return looker(room, calls, each).lines;
    }

    private static Looker looker(int life, List<Told> calls, Consumer<Looker> each) {
        TwoBelow x = new TwoBelow();
        EarlierLife.of(life).forEach(call -> call.go(x));
        calls.forEach(call -> call.go(x));
        Looker eye = new Looker(x);
        each.accept(eye);
        return eye;
    }

    /** Each look has a twin of its own, so that one need not care what another one spoils. */
    private static List<Consumer<Looker>> looks() {
        List<Consumer<Looker>> empire = new ArrayList<>(List.of(Looker::counts, Looker::ranks, Looker::spots, Looker::laws));
        for (int p = 0; p < PERSONS; p++) {
            int person = p;
            empire.add(eye -> eye.person(person));
        }
        List<Consumer<Looker>> all = new ArrayList<>(List.of(Looker::statuses));
        all.addAll(empire);
        all.add(Looker::text);
        for (int s = 0; s < SHEETS; s++) {
            int sheet = s;
            all.add(eye -> eye.sheet(sheet));
        }
        for (Consumer<Looker> each : empire) {
            all.add(eye -> {
                eye.ask("back()");
                each.accept(eye);
            });
        }
        all.add(eye -> eye.ask("tear()"));
        return all;
    }

    private static final class Looker {
        final TwoBelow x;
        final List<String> lines = new ArrayList<>();

        Looker(TwoBelow x) {
            this.x = x;
        }

        int ask(String call) {
            int answer = Told.of(call).go(x);
            lines.add(call + " -> " + answer);
            return answer;
        }

        void statuses() {
            for (int which = -1; which < 7; which++) {
                ask("status(" + which + ")");
            }
        }

        void counts() {
            for (int what = 0; what < 8; what++) {
                ask("count(" + what + ")");
            }
        }

        void person(int p) {
            boolean isThere = ask("of(" + p + ", 0)") >= 0;
            for (int what = 1; what < 7 && isThere; what++) {
                ask("of(" + p + ", " + what + ")");
            }
        }

        void ranks() {
            for (int r = 0; r < 8; r++) {
                ask("rankOf(" + r + ", 0)");
                ask("rankOf(" + r + ", 2)");
            }
        }

        void spots() {
            for (int spot = 0; spot < 10; spot++) {
                ask("as(" + spot + ", 0)");
            }
        }

        void laws() {
            ask("law(0, 0)");
            ask("law(1, 3)");
            ask("law(2, 50)");
        }

        /** What is on the tape, by what it tells. */
        void text() {
            ask("text()");
            ask("count(1)");
            laws();
        }

        /** Numbers of a sheet can be seen as grudges alone, for which there must be as many persons as can be. */
        void sheet(int s) {
            if (ask("copy(" + s + ", 0, " + s + ", 0, 0)") != 0) {
                return;
            }
            for (int r = 0; r < 8; r++) {
                ask("seats(" + r + ", 4)");
            }
            int p = ask("count(1)");
            for (int r = 0; r < 8 && p < PERSONS; r++) {
                for (int free = 4 - ask("rankOf(" + r + ", 1)"); free > 0 && p < PERSONS; free--) {
                    ask("person(0, " + r + ")");
                    p++;
                }
            }
            numbers(s);
        }

        void numbers(int s) {
            int size = 0;
            for (int step = 32; step > 0; step /= 2) {
                size += ask("copy(" + s + ", 0, " + s + ", 0, " + (size + step) + ")") < 0 ? 0 : step;
            }
            int came = ask("load(" + s + ")");
            for (int p = 0; p < came && p < PERSONS; p++) {
                ask("of(" + p + ", 5)");
            }
            if (size > 1) {
                // A number that is no grudge hides those behind it: the last one is looked at by itself.
                ask("copy(" + s + ", " + (size - 1) + ", " + s + ", 0, 1)");
                ask("load(" + s + ")");
                ask("of(0, 5)");
            }
            if (size > 0) {
                ask("write(" + s + ", 0, 255)");
                ask("load(" + s + ")");
                ask("write(" + s + ", 0, 65535)");
                ask("load(" + s + ")");
            }
        }
    }
}
