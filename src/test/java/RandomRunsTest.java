import java.lang.reflect.Method;
import java.util.ArrayList;
import java.util.Arrays;
import java.util.List;
import java.util.Random;

/** Runs of chance calls, of which each must be answered by TwoBelow as by Oracle. The seeds are fixed. */
public final class RandomRunsTest {
    private static final int RUNS = 600;
    private static final int CALLS = 300;
    private static final int[] WILD = {Integer.MIN_VALUE, Integer.MAX_VALUE, -2, -1, 1000, 10000, 65536, -1000001};

    private final Random chance;
    private final int run;
    private final TwoBelow got = new TwoBelow();
    private final Oracle due = new Oracle();
    private final List<String> told = new ArrayList<>();
    private boolean wrong = false;

    private RandomRunsTest(int run) {
        this.run = run;
        // Seeds that follow one another begin alike: they are spread.
        chance = new Random((run + 1) * 0x9E3779B97F4A7C15L);
    }

    public static void main(String[] args) throws Exception {
        int runs = args.length > 0 ? Integer.parseInt(args[0]) : RUNS;
        int failed = 0;
        for (int run = 0; run < runs; run++) {
            RandomRunsTest test = new RandomRunsTest(run);
            test.play();
            failed += test.wrong ? 1 : 0;
        }
        System.out.println("RandomRunsTest: " + (runs - failed) + " runs as due, " + failed + " not");
        if (failed != 0) {
            System.exit(1);
        }
    }

    private void call(String name, int... args) throws Exception {
        Class<?>[] types = new Class<?>[args.length];
        Arrays.fill(types, int.class);
        Object[] boxed = Arrays.stream(args).boxed().toArray();
        Method ours = TwoBelow.class.getMethod(name, types);
        Method theirs = Oracle.class.getMethod(name, types);
        Object a;
        try {
            a = ours.invoke(got, boxed);
        } catch (java.lang.reflect.InvocationTargetException e) {
            a = e.getCause();
        }
        Object b = theirs.invoke(due, boxed);
        told.add(name + Arrays.toString(args) + " -> " + a);
        if (!b.equals(a) && !wrong) {
            wrong = true;
            System.out.println("run " + run + ", call " + told.size() + ": " + name + Arrays.toString(args)
                    + " answered " + a + ", due is " + b);
            System.out.println("  before: " + told.subList(Math.max(0, told.size() - 12), told.size()));
        }
    }

    /** A number from a to b, mostly; at times one beside it, or a wild one. */
    private int num(int a, int b) {
        int die = chance.nextInt(60);
        if (die == 0) {
            return WILD[chance.nextInt(WILD.length)];
        }
        if (die == 1) {
            return chance.nextBoolean() ? a - 1 : b + 1;
        }
        if (die == 2) {
            return chance.nextBoolean() ? a : b;
        }
        return a + chance.nextInt(Math.max(1, b - a + 1));
    }

    private int someone() {
        return num(0, Math.max(0, due.count(1) - 1));
    }

    private void play() throws Exception {
        if (chance.nextInt(8) == 0) {
            growLate();
        }
        boolean hot = chance.nextInt(3) > 0;
        if (hot) {
            stirUp();
        } else {
            settle();
        }
        for (int i = 0; i < CALLS && !wrong; i++) {
            step();
            if (i % 40 == 39) {
                look();
            }
            if (hot && chance.nextInt(5) == 0) {
                call("back");
            }
        }
        look();
    }

    /** So many months go that what would be above the last one comes up. */
    private void growLate() throws Exception {
        for (int i = chance.nextInt(3); i < 16; i++) {
            call("months", 60);
        }
        call("months", num(1, 40));
    }

    private void settle() throws Exception {
        for (int i = chance.nextInt(4); i > 0; i--) {
            text(chance.nextInt(5) == 0);
        }
        int people = chance.nextInt(12);
        for (int i = 0; i < people; i++) {
            call("person", num(0, 6), num(0, chance.nextInt(8)));
        }
        if (chance.nextInt(3) > 0) {
            call("rumours", num(1, 12));
        }
    }

    /** Many persons of all sorts, most with a grudge against one two ranks above: much comes of it. */
    private void stirUp() throws Exception {
        for (int r = 0; r < 8; r++) {
            call("seats", r, 1 + chance.nextInt(4));
        }
        int span = 3 + chance.nextInt(5);
        for (int i = 0; i < 60; i++) {
            call("person", new int[] {0, 0, 0, 1, 2, 2, 3, 3, 4, 5, 5, 6}[chance.nextInt(12)], chance.nextInt(span));
        }
        for (int p = 0; p < due.count(1); p++) {
            call("change", p, 2, 20 + chance.nextInt(60));
            call("change", p, 3, chance.nextInt(4));
            call("change", p, 4, chance.nextInt(chance.nextInt(6) == 0 ? 9999 : 300));
            for (int tries = chance.nextInt(20); tries > 0; tries--) {
                int q = chance.nextInt(due.count(1));
                if (due.of(q, 1) == due.of(p, 1) - 2) {
                    call("grudge", p, q);
                    break;
                }
            }
        }
        call("law", 0, chance.nextInt(3));
        call("law", 1, 1 + chance.nextInt(3));
        call("law", 2, chance.nextInt(150));
        call("image");
    }

    /** All that can be seen of the state. */
    private void look() throws Exception {
        for (int p = 0; p < 12; p++) {
            for (int what = 0; what < 7; what++) {
                call("of", p, what);
            }
        }
        for (int r = 0; r < 8; r++) {
            for (int what = 0; what < 5; what++) {
                call("rankOf", r, what);
            }
        }
        for (int what = 0; what < 8; what++) {
            call("count", what);
        }
        for (int which = -1; which < 7; which++) {
            call("status", which);
        }
        for (int spot = 0; spot < 10; spot++) {
            call("as", spot, 0);
        }
    }

    private void step() throws Exception {
        switch (chance.nextInt(12)) {
            case 0:
            case 1:
            case 2:
                change();
                break;
            case 3:
            case 4:
                ask();
                break;
            case 5:
                askAhead();
                break;
            case 6:
                call("months", num(1, chance.nextInt(6) == 0 ? 60 : 2));
                break;
            case 7:
                if (chance.nextInt(3) == 0) {
                    text(chance.nextBoolean());
                } else {
                    feedOrImage();
                }
                break;
            case 8:
                sheets();
                break;
            default:
                trySearch();
                break;
        }
    }

    private void change() throws Exception {
        switch (chance.nextInt(11)) {
            case 0:
                call("seats", num(0, 7), num(0, 4));
                break;
            case 1:
                call("law", 0, num(0, 2));
                break;
            case 2:
                call("law", num(0, 2), num(0, 5));
                break;
            case 3:
                call("law", 2, num(0, 200));
                break;
            case 4:
                call("person", num(0, 6), num(0, 7));
                break;
            case 5:
                call("change", someone(), num(0, 4), num(0, 99));
                break;
            case 6:
                call("change", someone(), chance.nextInt(3) == 0 ? 4 : 0, num(0, chance.nextInt(3) == 0 ? 9999 : 6));
                break;
            case 7:
                call("grudge", someone(), someone());
                break;
            case 8:
                call("put", someone(), num(-1, 7));
                break;
            case 9:
                call("gift", someone(), num(1, chance.nextInt(5) == 0 ? 9999 : 120));
                break;
            default:
                call("exchange", someone(), someone());
                break;
        }
    }

    private void ask() throws Exception {
        switch (chance.nextInt(10)) {
            case 0:
                call("rankOf", num(0, 7), num(0, 4));
                break;
            case 1:
                call("of", someone(), num(0, 6));
                break;
            case 2:
            case 3:
                call("wants", someone(), someone());
                break;
            case 4:
                call("against", someone());
                break;
            case 5:
                call("lacks", someone());
                break;
            case 6:
                call("tremble");
                break;
            case 7:
                call("heir", num(0, 6));
                break;
            case 8:
                call("safe");
                break;
            default:
                call(chance.nextBoolean() ? "count" : "status", num(0, 7));
                break;
        }
    }

    private void askAhead() throws Exception {
        switch (chance.nextInt(4)) {
            case 0:
                call("ahead", num(0, 120), chance.nextBoolean() ? num(0, 3) : 4 + someone());
                break;
            case 1:
                call("sits", someone());
                break;
            case 2:
                call("rises", someone(), num(0, 20));
                break;
            default:
                call("worth", someone(), num(0, 7), num(1, 120));
                break;
        }
    }

    private void trySearch() throws Exception {
        switch (chance.nextInt(9)) {
            case 0:
                if (chance.nextInt(4) == 0) {
                    call("least", someone(), num(1, 24));
                } else {
                    call("least", someone(), num(1, 4));
                }
                break;
            case 1:
                call("best", someone(), num(1, 60));
                break;
            case 2:
                call("partsFor", num(1, 60));
                break;
            case 3:
                call("kindFor", someone(), num(1, 60));
                break;
            case 4:
                call("plot", someone(), num(1, chance.nextInt(4) == 0 ? 12 : 3));
                break;
            case 5:
                call("undo", someone(), num(1, 60));
                break;
            case 6:
                call("rumours", num(1, 12));
                break;
            case 7:
                call("seed", chance.nextInt());
                break;
            default:
                call("safe");
                break;
        }
    }

    private void feedOrImage() throws Exception {
        switch (chance.nextInt(8)) {
            case 0:
                call(chance.nextInt(4) == 0 ? "image" : "wipe");
                break;
            case 1:
                call("back");
                break;
            case 2:
                call(chance.nextInt(4) == 0 ? "tear" : "tremble");
                break;
            case 3:
                call("feed", chance.nextInt(), num(1, 4));
                break;
            case 4:
                call(chance.nextInt(3) == 0 ? "text" : "wipe");
                break;
            case 5:
                call("hold", num(0, 9), num(-1, Math.max(0, due.count(1) - 1)));
                break;
            default:
                call("as", num(0, 9), num(0, 6));
                break;
        }
    }

    private void sheets() throws Exception {
        int s = num(0, 3);
        switch (chance.nextInt(9)) {
            case 0:
                call("sheet", s, 8 << chance.nextInt(3), num(0, 40));
                break;
            case 1:
                call("sheet", s, chance.nextInt(3) == 0 ? 0 : num(0, 40), num(-2, 42));
                break;
            case 2:
                call("write", s, num(0, 10), chance.nextInt());
                break;
            case 3:
                call("write", s, num(0, 10), num(-1, 11));
                break;
            case 4:
                call("copy", s, num(0, 6), num(0, 3), num(0, 6), num(0, 12));
                break;
            case 5:
                call("copy", s, num(0, 41), s, num(0, 41), num(0, 3));
                break;
            case 6:
                load(s);
                break;
            case 7:
                annals(s);
                break;
            default:
                call(chance.nextBoolean() ? "load" : "judge", s);
                break;
        }
    }

    private void load(int s) throws Exception {
        int n = chance.nextInt(14);
        call("sheet", s, 8 << chance.nextInt(3), n);
        for (int i = 0; i < n; i++) {
            call("write", s, i, num(-1, Math.max(0, due.count(1) - 1)));
        }
        call("load", s);
    }

    private void annals(int s) throws Exception {
        int n = chance.nextInt(6);
        call("sheet", s, 8 << chance.nextInt(3), n);
        for (int i = 0; i < n; i++) {
            call("write", s, i, chance.nextInt(12) == 0 ? num(0, 7) : Math.max(0, due.ahead(i + 1, 3)));
            // The question that was put to Oracle alone may have told a finding there: the other one is told it, too.
            if (due.status(-1) != got.status(-1)) {
                got.ahead(i + 1, 3);
            }
        }
        call("judge", s);
    }

    private void text(boolean spoilt) throws Exception {
        StringBuilder text = new StringBuilder(chance.nextInt(6) == 0 ? " " : "");
        int items = 1 + chance.nextInt(5);
        for (int i = 0; i < items; i++) {
            text.append(i == 0 ? "" : chance.nextInt(3) == 0 ? " ; " : ";").append(item());
        }
        text.append(chance.nextInt(6) == 0 ? "  " : "");
        if (spoilt) {
            spoil(text);
        }
        if (text.length() > 120) {
            text.setLength(120);
        }
        call("wipe");
        for (int at = 0; at < text.length();) {
            int n = Math.min(1 + chance.nextInt(4), text.length() - at);
            int bytes = chance.nextInt();
            for (int i = 0; i < n; i++) {
                bytes = bytes << 8 | text.charAt(at + i);
            }
            call("feed", bytes, n);
            at += n;
        }
        told.add("\"" + text + "\"");
        call("text");
    }

    private void spoil(StringBuilder text) {
        int at = chance.nextInt(text.length());
        switch (chance.nextInt(5)) {
            case 0:
                text.deleteCharAt(at);
                break;
            case 1:
                text.setCharAt(at, (char) chance.nextInt(256));
                break;
            case 2:
                text.setLength(at);
                break;
            case 3:
                text.insert(at, "00");
                break;
            default:
                text.insert(at, List.of(";", " ", "9", "a", "law 1", "in", "age 3 ", "seats").get(chance.nextInt(8)));
                break;
        }
    }

    private String item() {
        int die = chance.nextInt(10);
        String gap = chance.nextInt(5) == 0 ? "" : chance.nextInt(5) == 0 ? "  " : " ";
        if (die == 0) {
            return "rank" + gap + digits(7) + gap + "seats" + gap + digits(4);
        }
        if (die == 1) {
            return List.of("law", "parts", "price").get(chance.nextInt(3)) + gap + digits(4);
        }
        StringBuilder text = new StringBuilder();
        text.append(List.of("person", "loyal", "bought", "sly", "kin", "plotter", "hermit").get(chance.nextInt(7)));
        text.append(" in").append(gap).append(digits(7));
        if (chance.nextInt(4) == 0) {
            text.append(gap).append("age").append(gap).append(digits(99));
        }
        if (chance.nextInt(4) == 0) {
            text.append(gap).append("house").append(gap).append(digits(3));
        }
        if (chance.nextInt(4) == 0) {
            text.append(gap).append("gold").append(gap).append(digits(9999));
        }
        if (chance.nextInt(3) == 0) {
            text.append(gap).append("grudge").append(gap).append(digits(Math.max(0, due.count(1))));
        }
        return text.toString();
    }

    private String digits(int most) {
        int v = Math.abs(num(0, most) + 0L) > 99999 ? 12345678 : Math.max(0, num(0, most));
        return (chance.nextInt(12) == 0 ? "00000000000" : "") + v;
    }
}
