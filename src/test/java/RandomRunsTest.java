import java.lang.reflect.Method;
import java.util.ArrayList;
import java.util.Arrays;
import java.util.List;
import java.util.Random;
import java.util.Set;
import java.util.TreeSet;
import java.util.stream.IntStream;

/**
 * Runs of chance calls, each as long as an object may be used, of which each must be answered by TwoBelow as by Oracle.
 * The seeds are fixed.
 */
public final class RandomRunsTest {
    private static final int RUNS = 800;
    private static final int CALLS = 512;
    /** So many calls it takes to look at all that can be seen. */
    private static final int LOOK = 150;
    /** From this call on an object is near its end: there, too, each call must be answered in each way. */
    private static final int LATE = 412;
    private static final List<String> FINDINGS = List.of("BEYOND", "FULL", "KIND", "NONE", "STATE", "MISSING", "SIZE");
    /** The findings of each call, as its promise names them; beside these it answers. */
    static final List<String> WAYS = List.of(
        "seats BEYOND STATE", "rankOf BEYOND", "law BEYOND", "person BEYOND STATE FULL", "of BEYOND", "change BEYOND",
        "grudge BEYOND", "put BEYOND STATE", "gift BEYOND STATE", "exchange BEYOND STATE",
        "wants BEYOND", "against BEYOND STATE", "lacks BEYOND STATE NONE", "tremble", "heir BEYOND NONE",
        "months BEYOND STATE", "ahead BEYOND STATE", "sits BEYOND STATE NONE", "rises BEYOND STATE NONE",
        "worth BEYOND STATE", "least BEYOND STATE NONE", "best BEYOND STATE", "partsFor BEYOND STATE",
        "kindFor BEYOND STATE", "plot BEYOND STATE SIZE NONE", "undo BEYOND STATE", "safe", "rumours BEYOND STATE", "seed",
        "feed BEYOND FULL", "wipe", "text", "hold BEYOND", "as BEYOND MISSING KIND", "sheet BEYOND SIZE",
        "write BEYOND MISSING", "copy BEYOND MISSING KIND", "load BEYOND MISSING", "judge BEYOND MISSING STATE",
        "image", "back NONE", "tear", "count BEYOND", "status BEYOND");
    private static final Set<String> SEEN_LATE = new TreeSet<>();
    private static final int[] WILD = {Integer.MIN_VALUE, Integer.MAX_VALUE, -2, -1, 1000, 10000, 65536, -1000001};

    private final Random chance;
    private final int run;
    private final TwoBelow got = new TwoBelow();
    private final Oracle due = new Oracle();
    private final List<String> told = new ArrayList<>();
    private int calls = 0;
    private boolean wrong = false;

    private RandomRunsTest(int run) {
        this.run = run;
        // Seeds that follow one another begin alike: they are spread.
        chance = new Random((run + 1) * 0x9E3779B97F4A7C15L);
    }

    public static void main(String[] args) {
        int runs = args.length > 0 ? Integer.parseInt(args[0]) : RUNS;
        long failed = IntStream.range(0, runs).filter(run -> !isAsDue(run)).count();
        Set<String> unseen = unseen();
        if (runs >= RUNS && failed == 0 && !unseen.isEmpty()) {
            System.out.println("near an object's last call there never was: " + unseen);
            failed++;
        }
        System.out.println("RandomRunsTest: " + (runs - failed) + " runs as due, " + failed + " not");
        if (failed != 0) {
            System.exit(1);
        }
    }

    /** Ways to answer that no run came upon near its end. */
    private static Set<String> unseen() {
        Set<String> unseen = new TreeSet<>();
        for (String ways : WAYS) {
            String[] words = ways.split(" ");
            unseen.add(words[0] + " answered");
            for (int i = 1; i < words.length; i++) {
                unseen.add(words[0] + " " + words[i]);
            }
        }
        unseen.removeAll(SEEN_LATE);
        return unseen;
    }

    private static boolean isAsDue(int run) {
        RandomRunsTest test = new RandomRunsTest(run);
        try {
            test.play();
        } catch (ReflectiveOperationException e) {
            throw new IllegalStateException("run " + run, e);
        }
        return !test.wrong;
    }

    /** A call on both; none, if the object has been used up. */
    private int call(String name, int... args) throws ReflectiveOperationException {
        if (calls >= CALLS || wrong) {
            return 0;
        }
        calls++;
        Class<?>[] types = new Class<?>[args.length];
        Arrays.fill(types, int.class);
        Object[] boxed = Arrays.stream(args).boxed().toArray();
        Method ours = TwoBelow.class.getMethod(name, types);
        Method theirs = Oracle.class.getMethod(name, types);
        Object a;
        try {
            a = ours.invoke(got, boxed);
        } catch (java.lang.reflect.InvocationTargetException e) {
            a = e.getCause();
        }
        Object b = theirs.invoke(due, boxed);
        told.add(name + Arrays.toString(args) + " -> " + a);
        if (calls >= LATE) {
            int finding = -1000001 - (Integer) b;
            boolean isFound = finding >= 0 && finding < FINDINGS.size();
            SEEN_LATE.add(name + " " + (isFound ? FINDINGS.get(finding) : "answered"));
        }
        if (!b.equals(a)) {
            wrong = true;
            System.out.println("run " + run + ", call " + calls + ": " + name + Arrays.toString(args)
                    + " answered " + a + ", due is " + b + "\n  before: "
                    + told.subList(Math.max(0, told.size() - 12), told.size()));
        }
        return (Integer) b;
    }

    /** A number from a to b, mostly; at times one beside it, or a wild one. */
    private int num(int a, int b) {
        int die = chance.nextInt(60);
        if (die == 0) {
            return WILD[chance.nextInt(WILD.length)];
        }
        if (die == 1) {
            return chance.nextBoolean() ? a - 1 : b + 1;
        }
        if (die == 2) {
            return chance.nextBoolean() ? a : b;
        }
        return a + chance.nextInt(Math.max(1, b - a + 1));
    }

    private int someone() {
        return num(0, Math.max(0, due.count(1) - 1));
    }

    private void play() throws ReflectiveOperationException {
        if (chance.nextInt(8) == 0) {
            growLate();
        }
        boolean goesBack = chance.nextInt(3) > 0;
        if (!goesBack) {
            settle();
        } else if (chance.nextInt(12) == 0) {
            // An empire in which there is nobody again and again.
            call("image");
        } else {
            stirUp();
        }
        // Some runs end with a look at all, some go on with other calls up to the last one.
        int end = chance.nextBoolean() ? CALLS - LOOK : CALLS;
        while (calls < end && !wrong) {
            step();
            glance(chance.nextInt(3));
            if (goesBack && chance.nextInt(5) == 0) {
                call("back");
            }
        }
        look();
    }

    /** So many months go that what would be above the last one comes up. */
    private void growLate() throws ReflectiveOperationException {
        for (int i = chance.nextInt(3); i < 16; i++) {
            call("months", 60);
        }
        call("months", num(1, 40));
    }

    private void settle() throws ReflectiveOperationException {
        for (int i = chance.nextInt(4); i > 0; i--) {
            text(chance.nextInt(5) == 0);
        }
        int people = chance.nextInt(12);
        for (int i = 0; i < people; i++) {
            call("person", num(0, 6), num(0, chance.nextInt(8)));
        }
        if (chance.nextInt(3) > 0) {
            call("rumours", num(1, 12));
        }
    }

    /** Many persons of all sorts, most with a grudge against one two ranks above: much comes of it. */
    private void stirUp() throws ReflectiveOperationException {
        for (int r = 0; r < 8; r++) {
            call("seats", r, 1 + chance.nextInt(4));
        }
        int span = 3 + chance.nextInt(5);
        for (int i = 0; i < 30 && due.count(1) < 12; i++) {
            call("person", new int[] {0, 0, 0, 1, 2, 2, 3, 3, 4, 5, 5, 6}[chance.nextInt(12)], chance.nextInt(span));
        }
        for (int p = 0; p < due.count(1); p++) {
            call("change", p, 2, 20 + chance.nextInt(60));
            call("change", p, 3, chance.nextInt(4));
            call("change", p, 4, chance.nextInt(chance.nextInt(6) == 0 ? 9999 : 300));
            for (int tries = chance.nextInt(20); tries > 0; tries--) {
                int q = chance.nextInt(due.count(1));
                if (due.of(q, 1) == due.of(p, 1) - 2) {
                    call("grudge", p, q);
                    break;
                }
            }
        }
        call("law", 0, chance.nextInt(3));
        call("law", 1, 1 + chance.nextInt(3));
        call("law", 2, chance.nextInt(150));
        call("image");
    }

    /** All that can be seen of the state. */
    private void look() throws ReflectiveOperationException {
        for (int i = 0; i < LOOK; i++) {
            question(i);
        }
    }

    /** Some of it. */
    private void glance(int questions) throws ReflectiveOperationException {
        for (int i = 0; i < questions; i++) {
            question(chance.nextInt(LOOK));
        }
    }

    private void question(int i) throws ReflectiveOperationException {
        if (i < 84) {
            call("of", i / 7, i % 7);
        } else if (i < 124) {
            call("rankOf", (i - 84) / 5, (i - 84) % 5);
        } else if (i < 132) {
            call("count", i - 124);
        } else if (i < 140) {
            call("status", i - 133);
        } else {
            call("as", i - 140, 0);
        }
    }

    private void step() throws ReflectiveOperationException {
        switch (chance.nextInt(12)) {
            case 0:
            case 1:
            case 2:
                change();
                break;
            case 3:
            case 4:
                ask();
                break;
            case 5:
                askAhead();
                break;
            case 6:
                call("months", num(1, chance.nextInt(6) == 0 ? 60 : 2));
                break;
            case 7:
                if (chance.nextInt(3) == 0) {
                    text(chance.nextBoolean());
                } else {
                    feedOrImage();
                }
                break;
            case 8:
                sheets();
                break;
            default:
                trySearch();
                break;
        }
    }

    private void change() throws ReflectiveOperationException {
        switch (chance.nextInt(11)) {
            case 0:
                call("seats", num(0, 7), num(0, 4));
                break;
            case 1:
                call("law", 0, num(0, 2));
                break;
            case 2:
                call("law", num(0, 2), num(0, 5));
                break;
            case 3:
                call("law", 2, num(0, 200));
                break;
            case 4:
                call("person", num(0, 6), num(0, 7));
                break;
            case 5:
                call("change", someone(), num(0, 4), num(0, 99));
                break;
            case 6:
                call("change", someone(), chance.nextInt(3) == 0 ? 4 : 0, num(0, chance.nextInt(3) == 0 ? 9999 : 6));
                break;
            case 7:
                call("grudge", someone(), someone());
                break;
            case 8:
                call("put", someone(), num(-1, 7));
                break;
            case 9:
                call("gift", someone(), num(1, chance.nextInt(5) == 0 ? 9999 : 120));
                break;
            default:
                call("exchange", someone(), someone());
                break;
        }
    }

    private void ask() throws ReflectiveOperationException {
        switch (chance.nextInt(10)) {
            case 0:
                call("rankOf", num(0, 7), num(0, 4));
                break;
            case 1:
                call("of", someone(), num(0, 6));
                break;
            case 2:
            case 3:
                call("wants", someone(), someone());
                break;
            case 4:
                call("against", someone());
                break;
            case 5:
                call("lacks", someone());
                break;
            case 6:
                call("tremble");
                break;
            case 7:
                call("heir", num(0, 6));
                break;
            case 8:
                call("safe");
                break;
            default:
                call(chance.nextBoolean() ? "count" : "status", num(0, 7));
                break;
        }
    }

    private void askAhead() throws ReflectiveOperationException {
        switch (chance.nextInt(4)) {
            case 0:
                call("ahead", num(0, 120), chance.nextBoolean() ? num(0, 3) : 4 + someone());
                break;
            case 1:
                call("sits", someone());
                break;
            case 2:
                call("rises", someone(), num(0, 20));
                break;
            default:
                call("worth", someone(), num(0, 7), num(1, 120));
                break;
        }
    }

    private void trySearch() throws ReflectiveOperationException {
        switch (chance.nextInt(9)) {
            case 0:
                if (chance.nextInt(4) == 0) {
                    call("least", someone(), num(1, 24));
                } else {
                    call("least", someone(), num(1, 4));
                }
                break;
            case 1:
                call("best", someone(), num(1, 60));
                break;
            case 2:
                call("partsFor", num(1, 60));
                break;
            case 3:
                call("kindFor", someone(), num(1, 60));
                break;
            case 4:
                call("plot", someone(), num(1, chance.nextInt(4) == 0 ? 12 : 3));
                break;
            case 5:
                call("undo", someone(), num(1, 60));
                break;
            case 6:
                call("rumours", num(1, 12));
                break;
            case 7:
                call("seed", chance.nextInt());
                break;
            default:
                call("safe");
                break;
        }
    }

    private void feedOrImage() throws ReflectiveOperationException {
        switch (chance.nextInt(8)) {
            case 0:
                call(chance.nextInt(4) == 0 ? "image" : "wipe");
                break;
            case 1:
                call("back");
                break;
            case 2:
                call(chance.nextInt(4) == 0 ? "tear" : "tremble");
                break;
            case 3:
                call("feed", chance.nextInt(), num(1, 4));
                if (chance.nextInt(8) == 0) {
                    fillTape();
                }
                break;
            case 4:
                call(chance.nextInt(3) == 0 ? "text" : "wipe");
                break;
            case 5:
                call("hold", num(0, 9), num(-1, Math.max(0, due.count(1) - 1)));
                break;
            default:
                call("as", num(0, 9), num(0, 6));
                break;
        }
    }

    private void fillTape() throws ReflectiveOperationException {
        for (int i = 0; i < 40 && call("feed", chance.nextInt(), 4) > 0; i++) {
            glance(chance.nextInt(2));
        }
        for (int n = 3; n > 0; n--) {
            call("feed", chance.nextInt(), n);
        }
        if (chance.nextBoolean()) {
            call("text");
        }
    }

    private void sheets() throws ReflectiveOperationException {
        int s = num(0, 3);
        switch (chance.nextInt(9)) {
            case 0:
                call("sheet", s, 8 << chance.nextInt(3), num(0, 40));
                break;
            case 1:
                call("sheet", s, chance.nextInt(3) == 0 ? 0 : num(0, 40), num(-2, 42));
                break;
            case 2:
                call("write", s, num(0, 10), chance.nextInt());
                break;
            case 3:
                call("write", s, num(0, 10), num(-1, 11));
                break;
            case 4:
                call("copy", s, num(0, 6), num(0, 3), num(0, 6), num(0, 12));
                break;
            case 5:
                call("copy", s, num(0, 41), s, num(0, 41), num(0, 3));
                break;
            case 6:
                load(s);
                break;
            case 7:
                annals(s);
                break;
            default:
                call(chance.nextBoolean() ? "load" : "judge", s);
                break;
        }
    }

    private void load(int s) throws ReflectiveOperationException {
        int n = chance.nextInt(14);
        call("sheet", s, 8 << chance.nextInt(3), n);
        for (int i = 0; i < n; i++) {
            call("write", s, i, num(-1, Math.max(0, due.count(1) - 1)));
        }
        call("load", s);
    }

    private void annals(int s) throws ReflectiveOperationException {
        int n = chance.nextInt(6);
        call("sheet", s, 8 << chance.nextInt(3), n);
        for (int i = 0; i < n; i++) {
            int top = Math.max(0, call("ahead", i + 1, 3));
            call("write", s, i, chance.nextInt(12) == 0 ? num(0, 7) : top);
        }
        call("judge", s);
    }

    private void text(boolean spoilt) throws ReflectiveOperationException {
        StringBuilder text = new StringBuilder(chance.nextInt(6) == 0 ? " " : "");
        int items = 1 + chance.nextInt(5);
        for (int i = 0; i < items; i++) {
            text.append(i == 0 ? "" : chance.nextInt(3) == 0 ? " ; " : ";").append(item());
        }
        text.append(chance.nextInt(6) == 0 ? "  " : "");
        if (spoilt) {
            spoil(text);
        }
        if (text.length() > 120) {
            text.setLength(120);
        }
        call("wipe");
        for (int at = 0; at < text.length();) {
            int n = Math.min(1 + chance.nextInt(4), text.length() - at);
            int bytes = chance.nextInt();
            for (int i = 0; i < n; i++) {
                bytes = bytes << 8 | text.charAt(at + i);
            }
            call("feed", bytes, n);
            at += n;
        }
        told.add("\"" + text + "\"");
        call("text");
    }

    private void spoil(StringBuilder text) {
        int at = chance.nextInt(text.length());
        switch (chance.nextInt(5)) {
            case 0:
                text.deleteCharAt(at);
                break;
            case 1:
                text.setCharAt(at, (char) chance.nextInt(256));
                break;
            case 2:
                text.setLength(at);
                break;
            case 3:
                text.insert(at, "00");
                break;
            default:
                text.insert(at, List.of(";", " ", "9", "a", "law 1", "in", "age 3 ", "seats").get(chance.nextInt(8)));
                break;
        }
    }

    private String item() {
        int die = chance.nextInt(10);
        String gap = chance.nextInt(5) == 0 ? "" : chance.nextInt(5) == 0 ? "  " : " ";
        if (die == 0) {
            return "rank" + gap + digits(7) + gap + "seats" + gap + digits(4);
        }
        if (die == 1) {
            return List.of("law", "parts", "price").get(chance.nextInt(3)) + gap + digits(4);
        }
        StringBuilder text = new StringBuilder();
        text.append(List.of("person", "loyal", "bought", "sly", "kin", "plotter", "hermit").get(chance.nextInt(7)));
        text.append(" in").append(gap).append(digits(7));
        if (chance.nextInt(4) == 0) {
            text.append(gap).append("age").append(gap).append(digits(99));
        }
        if (chance.nextInt(4) == 0) {
            text.append(gap).append("house").append(gap).append(digits(3));
        }
        if (chance.nextInt(4) == 0) {
            text.append(gap).append("gold").append(gap).append(digits(9999));
        }
        if (chance.nextInt(3) == 0) {
            text.append(gap).append("grudge").append(gap).append(digits(Math.max(0, due.count(1))));
        }
        return text.toString();
    }

    private String digits(int most) {
        int v = Math.abs(num(0, most) + 0L) > 99999 ? 12345678 : Math.max(0, num(0, most));
        return (chance.nextInt(12) == 0 ? "00000000000" : "") + v;
    }
}
