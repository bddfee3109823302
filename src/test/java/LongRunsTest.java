import java.util.ArrayList;
import java.util.List;

/** Runs by hand that go on up to an object's 512th call, in which much of one thing comes together. */
public final class LongRunsTest {
    private static final int BEYOND = Edge.BEYOND;
    private static final int FULL = Edge.FULL;
    private static final int STATE = Edge.STATE;
    private static final int CALLS = 512;

    private static int wrong = 0;
    private static int asked = 0;

    private final String name;
    private final TwoBelow object = new TwoBelow();
    private int calls = 0;

    private LongRunsTest(String name) {
        this.name = name;
    }

    public static void main(String[] args) {
        findingsAddUp();
        monthsOneByOne();
        monthsUpToTheLast();
        giftsAddUp();
        turnedOutAgainAndAgain();
        drawsWithoutEnd();
        backAgainAndAgain();
        imagesAgainAndAgain();
        tapeFilledAndWiped();
        textsOneBehindAnother();
        textsWithFaultsLeaveNothing();
        sheetsShifted();
        sheetsMadeAnew();
        placesExchanged();
        inAndOut();
        grudgesLoaded();
        lawsTellWhatTheyWere();
        spotsFollowTheKind();
        questionsChangeNothing();
        twoObjectsKnowNothingOfOneAnother();
        Edge.FAULTS.forEach(System.out::println);
        wrong += Edge.FAULTS.size();
        System.out.println("LongRunsTest: " + (asked - wrong) + " answers as due, " + wrong + " not");
        if (wrong != 0) {
            System.exit(1);
        }
    }

    // ---- words

    private int go(String call) {
        calls++;
        return Told.of(call).go(object);
    }

    private void due(String call, int want) {
        int got = go(call);
        expect(call, want, got);
    }

    private void expect(String call, int want, int got) {
        asked++;
        if (want != got) {
            wrong++;
            System.out.println(name + ", call " + calls + ": " + call + " answered " + got + ", due is " + want);
        }
    }

    private int left() {
        return CALLS - calls;
    }

    /** The object has been used for as many calls as it may be. */
    private void end() {
        expect("the run's calls", CALLS, calls);
    }

    private void feed(String text) {
        for (int at = 0; at < text.length(); at += 4) {
            int n = Math.min(4, text.length() - at);
            int bytes = 0;
            for (int i = 0; i < n; i++) {
                bytes = bytes << 8 | text.charAt(at + i);
            }
            go("feed(" + bytes + ", " + n + ")");
        }
    }

    /** Twelve persons, three in each of the ranks from one on. */
    private void crowd(int rank) {
        for (int p = 0; p < 12; p++) {
            due("person(0, " + (rank + p / 3) + ")", p);
        }
    }

    // ---- findings, months, gifts

    private static void findingsAddUp() {
        LongRunsTest run = new LongRunsTest("findingsAddUp");
        run.due("person(0, 0)", 0);
        run.due("hold(0, 0)", 1);
        run.feed("a".repeat(120));
        String[] refused = {"seats(8, 0)", "feed(0, 1)", "as(0, 1)", "heir(6)", "put(0, 3)", "load(0)", "sheet(0, 8, -1)"};
        int[] due = new int[refused.length];
        for (int i = 0; run.left() > 9; i++) {
            run.due(refused[i % refused.length], BEYOND - i % refused.length);
            due[i % refused.length]++;
        }
        int all = 0;
        for (int which = 0; which < refused.length; which++) {
            run.due("status(" + which + ")", due[which]);
            all += due[which];
        }
        run.due("status(7)", BEYOND);
        run.due("status(-1)", all + 1);
        run.end();
    }

    private static void monthsOneByOne() {
        LongRunsTest run = new LongRunsTest("monthsOneByOne");
        run.due("person(0, 0)", 0);
        run.due("seats(7, 1)", 3);
        run.due("person(1, 7)", 1);
        run.due("seats(6, 0)", 3);
        int months = run.left() - 5;
        for (int i = 0; i < months; i++) {
            run.due("months(1)", 0);
        }
        run.due("count(0)", months);
        run.due("of(0, 2)", 30 + months / 12);
        run.due("of(0, 4)", 100 + 8 * months);
        run.due("of(1, 2)", 30 + months / 12);
        run.due("of(1, 4)", 100 + months);
        run.end();
    }

    private static void monthsUpToTheLast() {
        LongRunsTest run = new LongRunsTest("monthsUpToTheLast");
        run.due("person(6, 0)", 0);
        for (int i = 0; i < 16; i++) {
            run.due("months(60)", 0);
        }
        run.due("months(40)", STATE);
        run.due("months(39)", 0);
        for (int i = 0; run.left() > 4; i++) {
            int n = 1 + i % 12;
            String[] tooLate = {"months(" + n + ")", "ahead(" + n + ", 0)", "rises(0, " + n + ")", "worth(0, 0, " + n + ")",
                "best(0, " + n + ")", "partsFor(" + n + ")", "kindFor(0, " + n + ")", "plot(0, " + n + ")",
                "undo(0, " + n + ")", "sits(0)"};
            run.due(tooLate[i % tooLate.length], STATE);
        }
        run.due("ahead(0, 2)", 100 + 8 * 999);
        run.due("rises(0, 0)", 0);
        run.due("of(0, 2)", 99);
        run.due("count(0)", 999);
        run.end();
    }

    private static void giftsAddUp() {
        LongRunsTest run = new LongRunsTest("giftsAddUp");
        run.due("person(0, 0)", 0);
        run.due("person(2, 2)", 1);
        run.due("grudge(1, 0)", -1);
        int gift = 0;
        for (int i = 0; run.left() >= 3 + 4; i++) {
            run.due("change(0, 4, 9999)", i == 0 ? 100 : 0);
            run.due("change(1, 4, 0)", i == 0 ? 100 : 9999);
            gift += 9999;
            run.due("gift(1, 9999)", gift);
        }
        while (run.left() > 3) {
            run.due("wants(1, 0)", 0);
        }
        run.due("of(1, 6)", gift);
        run.due("grudge(1, 0)", 0);
        run.due("of(1, 6)", 0);
        run.end();
    }

    private static void turnedOutAgainAndAgain() {
        LongRunsTest run = new LongRunsTest("turnedOutAgainAndAgain");
        run.due("seats(1, 0)", 3);
        run.due("person(0, 0)", 0);
        run.due("person(5, 2)", 1);
        run.due("change(1, 2, 0)", 30);
        run.due("months(1)", 1);
        int turned = 1;
        while (run.left() > 3) {
            run.due("put(0, 0)", -1);
            run.due("months(1)", 1);
            turned++;
        }
        run.due("count(3)", turned);
        run.due("of(0, 4)", 100);
        run.due("of(1, 4)", 100 + 6 * turned);
        run.end();
    }

    private static void drawsWithoutEnd() {
        LongRunsTest run = new LongRunsTest("drawsWithoutEnd");
        run.crowd(0);
        int z = 1;
        int[] grudges = new int[12];
        java.util.Arrays.fill(grudges, -1);
        while (run.left() > 13) {
            for (int i = 0; i < 12; i++) {
                z = z * 1103515245 + 12345;
                int person = (z >>> 8) % 12;
                z = z * 1103515245 + 12345;
                int other = (z >>> 8) % 12;
                grudges[person] = other == person ? -1 : other;
            }
            run.due("rumours(12)", (int) java.util.Arrays.stream(grudges).filter(g -> g >= 0).count());
        }
        run.due("count(7)", z);
        for (int p = 0; p < 12; p++) {
            run.due("of(" + p + ", 5)", grudges[p]);
        }
        run.end();
    }

    // ---- images

    private static void backAgainAndAgain() {
        LongRunsTest run = new LongRunsTest("backAgainAndAgain");
        run.due("person(0, 0)", 0);
        run.due("person(0, 2)", 1);
        run.due("months(7)", 0);
        run.due("seed(5)", 1);
        run.due("image()", 1);
        while (run.left() > 15) {
            run.due("grudge(1, 0)", -1);
            run.due("person(3, 5)", 2);
            run.due("hold(4, 2)", 1);
            run.due("law(1, 5)", 3);
            run.due("seats(3, 1)", 3);
            // The sly one is in rank 2 behind three months, and turns out one of the two.
            run.due("months(60)", 1);
            run.due("seed(6)", 5);
            run.due("back()", 7);
        }
        while (run.left() > 7) {
            run.due("back()", 7);
        }
        run.due("count(1)", 2);
        run.due("of(1, 5)", -1);
        // He was in rank 1 for a month, and then in rank 0.
        run.due("of(1, 4)", 100 + 7 + 6 * 8);
        run.due("as(4, 0)", Edge.MISSING);
        run.due("law(1, 3)", 3);
        run.due("rankOf(3, 0)", 3);
        run.due("tear()", 1);
        run.end();
    }

    private static void imagesAgainAndAgain() {
        LongRunsTest run = new LongRunsTest("imagesAgainAndAgain");
        int month = 0;
        while (run.left() >= 8) {
            run.due("months(1)", 0);
            month++;
            run.due("image()", 1);
            run.due("months(2)", 0);
            run.due("back()", month);
        }
        run.due("tear()", 1);
        run.due("tear()", 0);
        while (run.left() > 0) {
            run.due("back()", Edge.NONE);
        }
        run.end();
    }

    // ---- texts

    private static void tapeFilledAndWiped() {
        LongRunsTest run = new LongRunsTest("tapeFilledAndWiped");
        while (run.left() > 0) {
            for (int bytes = 4; bytes <= 120; bytes += 4) {
                run.due("feed(1633771873, 4)", bytes);
            }
            run.due("feed(97, 1)", FULL);
            run.due(run.left() % 64 == 1 ? "wipe()" : "text()", run.left() % 64 == 1 ? 120 : -1);
        }
        run.end();
    }

    private static void textsOneBehindAnother() {
        LongRunsTest run = new LongRunsTest("textsOneBehindAnother");
        String[] words = {"law 2;parts 4;price 3", "law 0;parts 5;price 999", "law 1;parts 1;price 0"};
        int[][] told = {{2, 4, 3}, {0, 5, 999}, {1, 1, 0}};
        for (int i = 0; run.left() > 10; i++) {
            run.feed(words[i % 3]);
            run.due("text()", 3);
            run.due("law(0, 0)", told[i % 3][0]);
            run.due("law(1, 2)", told[i % 3][1]);
            run.due("law(2, 1)", told[i % 3][2]);
        }
        while (run.left() > 0) {
            run.due("text()", -1);
        }
        run.end();
    }

    private static void textsWithFaultsLeaveNothing() {
        LongRunsTest run = new LongRunsTest("textsWithFaultsLeaveNothing");
        run.due("person(0, 0)", 0);
        while (run.left() > 12) {
            run.feed("sly in 0;law 2;law 3");
            run.due("text()", -1 - 19);
            run.due("count(1)", 1);
            run.due("law(0, 0)", 0);
            run.due("count(6)", 0);
        }
        while (run.left() > 6) {
            run.due("wipe()", 0);
        }
        run.feed("sly in 0 gold 7");
        run.due("text()", 1);
        run.due("of(1, 4)", 7);
        run.end();
    }

    // ---- sheets

    private static void sheetsShifted() {
        LongRunsTest run = new LongRunsTest("sheetsShifted");
        run.crowd(0);
        run.due("sheet(0, 16, 40)", 40);
        run.due("sheet(1, 16, 40)", 40);
        int[] row = new int[40];
        int[] other = new int[40];
        for (int i = 0; i < 40; i++) {
            // The row holds grudges at whatever place it begins: nobody, or 12, which ends it.
            row[i] = i % 17 == 16 ? 12 : -1;
            run.due("write(0, " + i + ", " + row[i] + ")", 1);
        }
        for (int i = 0; run.left() > 2; i++) {
            int n = 20 + i % 19;
            if (i % 3 == 0) {
                run.due("copy(0, 0, 0, 1, " + n + ")", n);
                System.arraycopy(row, 0, row, 1, n);
            } else if (i % 3 == 1) {
                run.due("copy(0, 2, 1, 0, " + n + ")", n);
                System.arraycopy(row, 2, other, 0, n);
            } else {
                run.due("copy(1, 0, 0, 0, 40)", 40);
                System.arraycopy(other, 0, row, 0, 40);
            }
        }
        int came = 0;
        while (came < 12 && row[came] == -1) {
            came++;
        }
        run.due("load(0)", came);
        run.due("count(5)", 0);
        run.end();
    }

    private static void sheetsMadeAnew() {
        LongRunsTest run = new LongRunsTest("sheetsMadeAnew");
        run.due("person(0, 0)", 0);
        run.due("person(0, 0)", 1);
        int[] bits = {8, 16, 32};
        for (int i = 0; run.left() > 8; i++) {
            int s = i % 4;
            run.due("sheet(" + s + ", " + bits[i % 3] + ", " + (1 + i % 40) + ")", 1 + i % 40);
            run.due("load(" + s + ")", 0);
            run.due("write(" + s + ", 0, 1)", 1);
            // A number 0 behind it, if there is one, is a grudge of the second person.
            run.due("load(" + s + ")", i % 40 == 0 ? 1 : 2);
            run.due("grudge(0, -1)", 1);
            run.due("sheet(" + s + ", 0, 7)", 0);
            run.due("write(" + s + ", 0, 1)", Edge.MISSING);
        }
        while (run.left() > 0) {
            run.due("judge(" + run.left() % 4 + ")", Edge.MISSING);
        }
        run.end();
    }

    // ---- persons

    private static void placesExchanged() {
        LongRunsTest run = new LongRunsTest("placesExchanged");
        run.crowd(1);
        int[] rank = new int[12];
        for (int p = 0; p < 12; p++) {
            rank[p] = 1 + p / 3;
        }
        for (int i = 0; run.left() > 12; i++) {
            int one = i * 5 % 12;
            int other = (i * 7 + 1 + i / 11) % 12;
            run.due("exchange(" + one + ", " + other + ")", one == other ? BEYOND : 1);
            int was = rank[one];
            rank[one] = rank[other];
            rank[other] = was;
        }
        for (int p = 0; p < 12; p++) {
            run.due("of(" + p + ", 1)", rank[p]);
        }
        run.end();
    }

    private static void inAndOut() {
        LongRunsTest run = new LongRunsTest("inAndOut");
        run.crowd(0);
        int[] rank = new int[12];
        int[] in = new int[8];
        for (int p = 0; p < 12; p++) {
            rank[p] = p / 3;
            in[p / 3]++;
        }
        for (int i = 0; run.left() > 13; i++) {
            int p = i * 5 % 12;
            if (rank[p] >= 0) {
                run.due("put(" + p + ", -1)", rank[p]);
                in[rank[p]]--;
                rank[p] = -1;
            } else {
                int r = i * 3 % 8;
                run.due("put(" + p + ", " + r + ")", in[r] < 3 ? -1 : STATE);
                rank[p] = in[r] < 3 ? r : -1;
                in[r] += in[r] < 3 ? 1 : 0;
            }
        }
        int out = 0;
        for (int p = 0; p < 12; p++) {
            run.due("of(" + p + ", 1)", rank[p]);
            out += rank[p] < 0 ? 1 : 0;
        }
        run.due("count(2)", out);
        run.end();
    }

    private static void grudgesLoaded() {
        LongRunsTest run = new LongRunsTest("grudgesLoaded");
        run.crowd(0);
        run.due("sheet(2, 8, 12)", 12);
        int turn = 0;
        while (run.left() >= 14 + 13) {
            turn = 1 + turn % 11;
            for (int p = 0; p < 12; p++) {
                run.due("write(2, " + p + ", " + (p + turn) % 12 + ")", 1);
            }
            run.due("load(2)", 12);
            run.due("gift(" + turn + ", 1)", 1);
        }
        while (run.left() > 13) {
            run.due("load(2)", 12);
        }
        for (int p = 0; p < 12; p++) {
            run.due("of(" + p + ", 5)", (p + turn) % 12);
        }
        run.due("count(5)", 12);
        run.end();
    }

    private static void lawsTellWhatTheyWere() {
        LongRunsTest run = new LongRunsTest("lawsTellWhatTheyWere");
        int[] was = {0, 3, 50};
        int[] seats = {3, 3, 3, 3, 3, 3, 3, 3};
        for (int i = 0; run.left() > 3; i++) {
            int what = i % 3;
            int v = what == 0 ? i % 7 % 3 : what == 1 ? 1 + i % 5 : i * 37 % 1000;
            run.due("law(" + what + ", " + v + ")", was[what]);
            was[what] = v;
            int r = i * 3 % 8;
            run.due("seats(" + r + ", " + i % 5 + ")", seats[r]);
            seats[r] = i % 5;
        }
        for (int what = 0; run.left() > 0; what++) {
            run.due("law(" + what % 3 + ", 1)", what < 3 ? was[what] : 1);
        }
        run.end();
    }

    private static void spotsFollowTheKind() {
        LongRunsTest run = new LongRunsTest("spotsFollowTheKind");
        String[] above = {"0", "01", "02", "023", "014", "05", "016"};
        run.due("person(0, 0)", 0);
        run.due("person(0, 1)", 1);
        int was = 0;
        for (int i = 0; run.left() >= 9; i++) {
            int kind = i * 3 % 7;
            run.due("change(1, 0, " + kind + ")", was);
            run.due("hold(" + i % 10 + ", 1)", 1);
            for (int k = 0; k < 7; k++) {
                run.due("as(" + i % 10 + ", " + k + ")", above[kind].contains("" + k) ? 1 : Edge.KIND);
            }
            was = kind;
        }
        while (run.left() > 0) {
            run.due("as(" + run.left() % 10 + ", 0)", 1);
        }
        run.end();
    }

    // ---- questions

    private static void questionsChangeNothing() {
        LongRunsTest run = new LongRunsTest("questionsChangeNothing");
        run.feed("rank 2 seats 4;sly in 2;person in 0 age 40;kin in 2 house 1 grudge 1;bought in 2 grudge 1;plotter in 3;law 1");
        run.due("text()", 7);
        run.feed("hermit in 2;loyal in 1 gold 300;person in 4 grudge 4;person in 5;price 20");
        run.due("text()", 5);
        run.due("gift(3, 20)", 20);
        run.due("sheet(0, 8, 3)", 3);
        run.due("hold(0, 4)", 1);
        List<String> questions = new ArrayList<>(List.of("tremble()", "safe()", "heir(1)", "against(1)", "lacks(1)",
                "wants(0, 1)", "wants(3, 1)", "ahead(30, 0)", "ahead(30, 1)", "ahead(30, 2)", "ahead(30, 3)", "ahead(30, 5)",
                "sits(1)", "rises(7, 40)", "worth(8, 1, 50)", "least(7, 3)", "best(8, 40)", "partsFor(60)", "kindFor(8, 60)",
                "plot(1, 3)", "undo(1, 40)", "judge(0)", "copy(0, 0, 0, 0, 3)", "as(0, 5)", "count(4)", "count(3)",
                "rankOf(2, 3)", "rankOf(2, 4)", "status(-1)", "tear()"));
        List<Integer> first = new ArrayList<>();
        questions.forEach(question -> first.add(run.go(question)));
        for (int i = 0; run.left() > 0; i++) {
            run.due(questions.get(i % questions.size()), first.get(i % questions.size()));
        }
        run.end();
    }

    private static void twoObjectsKnowNothingOfOneAnother() {
        LongRunsTest run = new LongRunsTest("twoObjectsKnowNothingOfOneAnother");
        LongRunsTest other = new LongRunsTest("the other one");
        for (int i = 0; run.left() > 6; i++) {
            run.due("months(1)", 0);
            other.due(i < 24 ? "person(0, " + i / 3 + ")" : "seed(" + i + ")", i < 12 ? i : i < 24 ? FULL : i == 24 ? 1 : i - 1);
        }
        for (LongRunsTest each : List.of(run, other)) {
            each.due("count(0)", each == run ? CALLS - 6 : 0);
            each.due("count(1)", each == run ? 0 : 12);
            each.due("count(7)", each == run ? 1 : CALLS - 7);
            each.due("status(1)", each == run ? 0 : 12);
            each.due("back()", Edge.NONE);
            each.due("status(-1)", each == run ? 1 : 13);
            each.end();
        }
    }
}
