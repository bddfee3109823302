import java.util.ArrayList;
import java.util.Comparator;
import java.util.List;
import java.util.TreeMap;
import java.util.function.Consumer;
import java.util.regex.Matcher;
import java.util.regex.Pattern;
import java.util.stream.Collectors;
import java.util.stream.IntStream;

/**
 * The document written down a second time, as plainly as can be and with no thought of speed,
 * for RandomRunsTest to hold against TwoBelow. It shares no code and no way of holding the state with it.
 */
public final class Oracle {
    /** A finding on its way to the caller. */
    private static final class Found extends RuntimeException {
        final int which;

        Found(String name) {
            super(name, null, false, false);
            which = List.of("BEYOND", "FULL", "KIND", "NONE", "STATE", "MISSING", "SIZE").indexOf(name);
        }
    }

    private interface Act {
        int answer();
    }

    private static final class Person {
        final int number;
        int kind;
        Integer rank;
        int age = 30;
        int house = 0;
        int gold = 100;
        Integer grudge;
        int gift = 0;

        Person(int number) {
            this.number = number;
        }

        Person twin() {
            Person t = new Person(number);
            t.kind = kind;
            t.rank = rank;
            t.age = age;
            t.house = house;
            t.gold = gold;
            t.grudge = grudge;
            t.gift = gift;
            return t;
        }
    }

    private static final class World {
        final List<Person> people = new ArrayList<>();
        final List<Integer> seats = new ArrayList<>(List.of(3, 3, 3, 3, 3, 3, 3, 3));
        final TreeMap<Integer, Integer> spots = new TreeMap<>();
        int law = 0;
        int parts = 3;
        int price = 50;
        int month = 0;
        int turned = 0;
        int z = 1;

        World twin() {
            World t = new World();
            people.forEach(p -> t.people.add(p.twin()));
            t.seats.clear();
            t.seats.addAll(seats);
            t.spots.putAll(spots);
            t.law = law;
            t.parts = parts;
            t.price = price;
            t.month = month;
            t.turned = turned;
            t.z = z;
            return t;
        }

        List<Person> inRank(int r) {
            return people.stream().filter(p -> p.rank != null && p.rank == r).collect(Collectors.toList());
        }

        boolean wants(Person p, Person q) {
            boolean hates = p.grudge != null && p.grudge == q.number;
            boolean unbought = hates && !(p.gift >= price);
            if (p.kind == 0) {
                return hates;
            } else if (p.kind == 2) {
                return unbought;
            } else if (p.kind == 3) {
                return unbought || q.rank != null && first(inRank(q.rank), Comparator.comparingInt(x -> -x.gold)) == q;
            } else if (p.kind == 4) {
                return hates && p.house != q.house;
            } else if (p.kind == 5) {
                return hates || p.rank != null && q.rank != null && p.rank - q.rank == 2 && q.age > p.age;
            }
            return false;
        }

        Person first(List<Person> some, Comparator<Person> order) {
            return some.stream().min(order.thenComparingInt(p -> p.number)).orElse(null);
        }

        Person heir(int r) {
            if (law == 0) {
                return first(inRank(r + 1), Comparator.comparingInt(p -> -p.age));
            }
            if (law == 1) {
                return first(inRank(r + 1), Comparator.comparingInt(p -> -p.gold));
            }
            return first(inRank(r + 1), Comparator.comparingInt(p -> p.number));
        }

        List<Person> judges(Person q) {
            return q.rank == null ? List.of()
                    : inRank(q.rank + 2).stream().filter(p -> p.kind != 6).collect(Collectors.toList());
        }

        List<Person> against(Person q) {
            return judges(q).stream().filter(p -> wants(p, q)).collect(Collectors.toList());
        }

        boolean enough(int some, int all) {
            return some >= 1 && some * parts >= all;
        }

        List<Person> trembling() {
            return people.stream().filter(q -> q.rank != null && q.rank <= 5)
                    .filter(q -> enough(against(q).size(), judges(q).size())).collect(Collectors.toList());
        }

        World go() {
            List<Person> out = trembling();
            out.forEach(q -> q.rank = null);
            turned += out.size();
            for (int r = 0; r <= 6; r++) {
                while (inRank(r).size() < seats.get(r) && !inRank(r + 1).isEmpty()) {
                    heir(r).rank = r;
                }
            }
            for (Person p : people) {
                if (p.rank != null) {
                    p.gold = Math.min(p.gold + 8 - p.rank, 9999);
                }
                if (month % 12 == 11) {
                    p.age = Math.min(p.age + 1, 99);
                }
            }
            month++;
            return this;
        }

        World go(int n) {
            for (int i = 0; i < n; i++) {
                go();
            }
            return this;
        }

        World with(Consumer<World> what) {
            World t = twin();
            what.accept(t);
            return t;
        }

        int gold() {
            return people.stream().mapToInt(p -> p.gold).sum();
        }

        int grudges() {
            return (int) people.stream().filter(p -> p.grudge != null).count();
        }

        int draw() {
            z = z * 1103515245 + 12345;
            return z >>> 8;
        }
    }

    private static final class Page {
        final int bits;
        final int[] row;

        Page(int bits, int n) {
            this.bits = bits;
            row = new int[n];
        }
    }

    private World w = new World();
    private World kept;
    private final StringBuilder tape = new StringBuilder();
    private final Page[] pages = new Page[4];
    private final int[] tally = new int[7];

    private int act(Act a) {
        try {
            return a.answer();
        } catch (Found f) {
            tally[f.which]++;
            return -1000001 - f.which;
        }
    }

    private static void unless(boolean good, String finding) {
        if (!good) {
            throw new Found(finding);
        }
    }

    private static boolean between(int v, int a, int b) {
        return a <= v && v <= b;
    }

    private static int set(List<Person> some) {
        return some.stream().mapToInt(p -> 1 << p.number).sum();
    }

    private static int rankNumber(Person p) {
        return p.rank == null ? -1 : p.rank;
    }

    private static int grudgeNumber(Person p) {
        return p.grudge == null ? -1 : p.grudge;
    }

    private boolean is(int p) {
        return between(p, 0, w.people.size() - 1);
    }

    private Person who(int p) {
        unless(is(p), "BEYOND");
        return w.people.get(p);
    }

    private void inTime(int n) {
        unless(w.month + n <= 999, "STATE");
    }

    private static void resent(Person p, int other) {
        p.grudge = other < 0 ? null : (Integer) other;
        p.gift = 0;
    }

    private static Person born(World t, int kind, int rank) {
        Person p = new Person(t.people.size());
        p.kind = kind;
        p.rank = rank;
        t.people.add(p);
        return p;
    }

    // ---- ranks, persons

    public int seats(int rank, int v) {
        return act(() -> {
            unless(between(rank, 0, 7) && between(v, 0, 4), "BEYOND");
            unless(w.inRank(rank).size() <= v, "STATE");
            return w.seats.set(rank, v);
        });
    }

    public int rankOf(int rank, int what) {
        return act(() -> {
            unless(between(rank, 0, 7) && between(what, 0, 4), "BEYOND");
            List<Person> here = w.inRank(rank);
            return new int[] {w.seats.get(rank), here.size(), set(here),
                (int) here.stream().filter(p -> p.kind != 6).count(), here.stream().mapToInt(p -> p.gold).sum()}[what];
        });
    }

    public int law(int what, int v) {
        return act(() -> {
            int was = what == 0 ? w.law : what == 1 ? w.parts : w.price;
            if (what == 0 && between(v, 0, 2)) {
                w.law = v;
            } else if (what == 1 && between(v, 1, 5)) {
                w.parts = v;
            } else if (what == 2 && between(v, 0, 999)) {
                w.price = v;
            } else {
                throw new Found("BEYOND");
            }
            return was;
        });
    }

    public int person(int kind, int rank) {
        return act(() -> {
            unless(between(kind, 0, 6) && between(rank, 0, 7), "BEYOND");
            unless(w.inRank(rank).size() < w.seats.get(rank), "STATE");
            unless(w.people.size() < 12, "FULL");
            return born(w, kind, rank).number;
        });
    }

    public int of(int person, int what) {
        return act(() -> {
            Person p = who(person);
            unless(between(what, 0, 6), "BEYOND");
            return new int[] {p.kind, rankNumber(p), p.age, p.house, p.gold, grudgeNumber(p), p.gift}[what];
        });
    }

    public int change(int person, int what, int v) {
        return act(() -> {
            Person p = who(person);
            int was;
            if (what == 0 && between(v, 0, 6)) {
                was = p.kind;
                p.kind = v;
            } else if (what == 2 && between(v, 0, 99)) {
                was = p.age;
                p.age = v;
            } else if (what == 3 && between(v, 0, 3)) {
                was = p.house;
                p.house = v;
            } else if (what == 4 && between(v, 0, 9999)) {
                was = p.gold;
                p.gold = v;
            } else {
                throw new Found("BEYOND");
            }
            return was;
        });
    }

    public int grudge(int person, int other) {
        return act(() -> {
            Person p = who(person);
            unless(other == -1 || is(other) && other != person, "BEYOND");
            int was = grudgeNumber(p);
            resent(p, other);
            return was;
        });
    }

    public int put(int person, int rank) {
        return act(() -> {
            Person p = who(person);
            unless(between(rank, -1, 7), "BEYOND");
            int was = rankNumber(p);
            if (p.rank != null) {
                unless(rank == -1, "STATE");
                p.rank = null;
            } else {
                unless(rank != -1, "STATE");
                unless(w.inRank(rank).size() < w.seats.get(rank), "STATE");
                p.rank = rank;
            }
            return was;
        });
    }

    private static boolean given(World t, int to, int v) {
        Person p = t.people.get(to);
        Person q = t.people.get(p.grudge);
        if (q.gold < v || p.gold + v > 9999) {
            return false;
        }
        q.gold -= v;
        p.gold += v;
        p.gift += v;
        return true;
    }

    public int gift(int to, int v) {
        return act(() -> {
            Person p = who(to);
            unless(between(v, 1, 9999), "BEYOND");
            unless(p.grudge != null, "STATE");
            unless(given(w, to, v), "STATE");
            return p.gift;
        });
    }

    public int exchange(int one, int other) {
        return act(() -> {
            Person a = who(one);
            Person b = who(other);
            unless(a != b, "BEYOND");
            unless(a.rank != null && b.rank != null, "STATE");
            Integer r = a.rank;
            a.rank = b.rank;
            b.rank = r;
            return 1;
        });
    }

    // ---- who trembles

    public int wants(int one, int other) {
        return act(() -> {
            Person a = who(one);
            Person b = who(other);
            unless(a != b, "BEYOND");
            return w.wants(a, b) ? 1 : 0;
        });
    }

    public int against(int person) {
        return act(() -> {
            Person q = who(person);
            unless(q.rank != null, "STATE");
            return set(w.against(q));
        });
    }

    public int lacks(int person) {
        return act(() -> {
            Person q = who(person);
            unless(q.rank != null, "STATE");
            int all = w.judges(q).size();
            unless(all > 0, "NONE");
            int due = 1;
            while (!w.enough(due, all)) {
                due++;
            }
            return Math.max(due - w.against(q).size(), 0);
        });
    }

    public int tremble() {
        return set(w.trembling());
    }

    public int heir(int rank) {
        return act(() -> {
            unless(between(rank, 0, 6), "BEYOND");
            Person p = w.heir(rank);
            unless(p != null, "NONE");
            return p.number;
        });
    }

    // ---- months

    public int months(int n) {
        return act(() -> {
            unless(between(n, 1, 60), "BEYOND");
            inTime(n);
            int before = w.turned;
            return w.go(n).turned - before;
        });
    }

    public int ahead(int n, int what) {
        return act(() -> {
            unless(between(n, 0, 120) && (between(what, 0, 3) || what > 3 && is(what - 4)), "BEYOND");
            inTime(n);
            World t = w.twin().go(n);
            switch (what) {
                case 0:
                    return set(t.people.stream().filter(p -> p.rank == null).collect(Collectors.toList()));
                case 1:
                    return t.turned - w.turned;
                case 2:
                    return t.gold();
                case 3:
                    return set(t.inRank(0));
                default:
                    return rankNumber(t.people.get(what - 4));
            }
        });
    }

    public int sits(int person) {
        return act(() -> {
            unless(who(person).rank != null && w.month <= 879, "STATE");
            World t = w.twin();
            for (int i = 1; i <= 120; i++) {
                if (t.go().people.get(person).rank == null) {
                    return i;
                }
            }
            throw new Found("NONE");
        });
    }

    public int rises(int person, int n) {
        return act(() -> {
            who(person);
            unless(between(n, 0, 120), "BEYOND");
            inTime(n);
            return IntStream.rangeClosed(0, n).mapToObj(i -> w.twin().go(i).people.get(person).rank)
                    .filter(r -> r != null).min(Integer::compare).orElseThrow(() -> new Found("NONE"));
        });
    }

    public int worth(int person, int rank, int n) {
        return act(() -> {
            who(person);
            unless(between(rank, 0, 7) && between(n, 1, 120), "BEYOND");
            inTime(n);
            int in = w.with(t -> t.people.get(person).rank = rank).go(n).people.get(person).gold;
            int out = w.with(t -> t.people.get(person).rank = null).go(n).people.get(person).gold;
            return in - out;
        });
    }

    // ---- gifts

    public int least(int person, int n) {
        return act(() -> {
            Person p = who(person);
            unless(between(n, 1, 24), "BEYOND");
            unless(p.grudge != null && w.people.get(p.grudge).rank != null, "STATE");
            inTime(n);
            for (int v = 0; v <= 999; v++) {
                World t = w.twin();
                if (given(t, person, v) && t.go(n).people.get(p.grudge).rank != null) {
                    return v;
                }
            }
            throw new Found("NONE");
        });
    }

    public int best(int person, int n) {
        return act(() -> {
            who(person);
            unless(between(n, 1, 60), "BEYOND");
            inTime(n);
            return IntStream.rangeClosed(0, 2).boxed().min(Comparator.comparingInt(l -> {
                Integer r = w.with(t -> t.law = l).go(n).people.get(person).rank;
                return r == null ? 8 : r;
            })).get();
        });
    }

    public int partsFor(int n) {
        return act(() -> {
            unless(between(n, 1, 60), "BEYOND");
            inTime(n);
            return IntStream.rangeClosed(1, 5).boxed()
                    .min(Comparator.comparingInt(k -> w.with(t -> t.parts = k).go(n).turned)).get();
        });
    }

    public int kindFor(int person, int n) {
        return act(() -> {
            who(person);
            unless(between(n, 1, 60), "BEYOND");
            inTime(n);
            return IntStream.rangeClosed(0, 6).boxed().min(Comparator.comparingInt(
                    k -> -w.with(t -> t.people.get(person).kind = k).go(n).people.get(person).gold)).get();
        });
    }

    // ---- plots

    public int plot(int person, int n) {
        return act(() -> {
            Person q = who(person);
            unless(between(n, 1, 12), "BEYOND");
            unless(q.rank != null, "STATE");
            inTime(n);
            int able = set(w.people.stream().filter(p -> p != q && p.rank != null && "0235".contains("" + p.kind))
                    .collect(Collectors.toList()));
            unless(Integer.bitCount(able) <= 10, "SIZE");
            return IntStream.rangeClosed(0, 4095).filter(s -> (s & able) == s).boxed()
                    .sorted(Comparator.comparingInt((Integer s) -> Integer.bitCount(s)).thenComparingInt(s -> s))
                    .filter(s -> w.with(t -> t.people.stream().filter(p -> (s & 1 << p.number) != 0)
                            .forEach(p -> resent(p, person))).go(n).people.get(person).rank == null)
                    .findFirst().orElseThrow(() -> new Found("NONE"));
        });
    }

    public int undo(int person, int n) {
        return act(() -> {
            Person q = who(person);
            unless(between(n, 1, 60), "BEYOND");
            unless(q.rank != null, "STATE");
            inTime(n);
            return set(w.people.stream().filter(p -> p != q && p.rank != null)
                    .filter(p -> w.with(t -> t.people.get(p.number).rank = null).go(n).people.get(person).rank != null)
                    .collect(Collectors.toList()));
        });
    }

    public int safe() {
        return set(w.people.stream().filter(q -> q.rank != null).filter(q -> {
            List<Person> judges = w.judges(q);
            long may = judges.stream().filter(
                p -> "0235".contains("" + p.kind) || p.kind == 4 && p.house != q.house).count();
            return q.rank >= 6 || judges.isEmpty() || !w.enough((int) may, judges.size());
        }).collect(Collectors.toList()));
    }

    public int rumours(int n) {
        return act(() -> {
            unless(between(n, 1, 12), "BEYOND");
            int many = w.people.size();
            unless(many > 0, "STATE");
            for (int i = 0; i < n; i++) {
                Person p = w.people.get(w.draw() % many);
                int other = w.draw() % many;
                resent(p, other == p.number ? -1 : other);
            }
            return w.grudges();
        });
    }

    public int seed(int v) {
        int was = w.z;
        w.z = v;
        return was;
    }

    // ---- texts

    public int feed(int bytes, int n) {
        return act(() -> {
            unless(between(n, 1, 4), "BEYOND");
            unless(tape.length() + n <= 120, "FULL");
            for (int i = 4 - n; i < 4; i++) {
                tape.append((char) (bytes >> 24 - 8 * i & 0xff));
            }
            return tape.length();
        });
    }

    public int wipe() {
        int had = tape.length();
        tape.setLength(0);
        return had;
    }

    public int text() {
        World t = w.twin();
        Matcher m = Pattern.compile("[a-z]+|[0-9]+|[^ ]", Pattern.DOTALL).matcher(tape.toString());
        List<String> tokens = new ArrayList<>();
        List<Integer> places = new ArrayList<>();
        while (m.find()) {
            tokens.add(m.group());
            places.add(m.start());
        }
        places.add(tape.length());
        tape.setLength(0);
        Parser p = new Parser(tokens, t);
        int items = p.items();
        if (items < 0) {
            return -1 - places.get(p.at);
        }
        w = t;
        return items;
    }

    private static final class Parser {
        final List<String> tokens;
        final World t;
        int at = 0;

        Parser(List<String> tokens, World t) {
            this.tokens = tokens;
            this.t = t;
        }

        String here() {
            return at < tokens.size() ? tokens.get(at) : "";
        }

        boolean skip(String word) {
            if (here().equals(word)) {
                at++;
                return true;
            }
            return false;
        }

        /** The number here, or -1 (and no step) if it isn't one from a to b. */
        int number(int a, int b) {
            if (!here().matches("[0-9]+")) {
                return -1;
            }
            java.math.BigInteger v = new java.math.BigInteger(here());
            if (v.bitLength() > 20 || !between(v.intValue(), a, b)) {
                return -1;
            }
            at++;
            return v.intValue();
        }

        int items() {
            int n = 0;
            do {
                if (!item()) {
                    return -1;
                }
                n++;
            } while (skip(";"));
            return at == tokens.size() ? n : -1;
        }

        boolean item() {
            if (skip("rank")) {
                int r = number(0, 7);
                if (r < 0 || !skip("seats")) {
                    return false;
                }
                int v = number(t.inRank(r).size(), 4);
                if (v >= 0) {
                    t.seats.set(r, v);
                }
                return v >= 0;
            }
            if (skip("law")) {
                t.law = number(0, 2);
                return t.law >= 0;
            }
            if (skip("parts")) {
                t.parts = number(1, 5);
                return t.parts >= 0;
            }
            if (skip("price")) {
                t.price = number(0, 999);
                return t.price >= 0;
            }
            int kind = List.of("person", "loyal", "bought", "sly", "kin", "plotter", "hermit").indexOf(here());
            return kind >= 0 && t.people.size() < 12 && newcomer(kind);
        }

        boolean newcomer(int kind) {
            at++;
            if (!skip("in")) {
                return false;
            }
            int r = number(0, 7);
            if (r < 0) {
                return false;
            }
            if (t.inRank(r).size() >= t.seats.get(r)) {
                at--;
                return false;
            }
            Person p = born(t, kind, r);
            if (skip("age")) {
                p.age = number(0, 99);
            }
            if (p.age >= 0 && skip("house")) {
                p.house = number(0, 3);
            }
            if (p.age >= 0 && p.house >= 0 && skip("gold")) {
                p.gold = number(0, 9999);
            }
            if (p.age >= 0 && p.house >= 0 && p.gold >= 0 && skip("grudge")) {
                p.grudge = number(0, p.number - 1);
                return p.grudge >= 0;
            }
            return p.age >= 0 && p.house >= 0 && p.gold >= 0;
        }
    }

    // ---- spots, sheets

    public int hold(int spot, int person) {
        return act(() -> {
            unless(between(spot, 0, 9) && (person == -1 || is(person)), "BEYOND");
            w.spots.put(spot, person);
            return 1;
        });
    }

    public int as(int spot, int kind) {
        return act(() -> {
            unless(between(spot, 0, 9) && between(kind, 0, 6), "BEYOND");
            int p = w.spots.getOrDefault(spot, -1);
            unless(p >= 0, "MISSING");
            String above = List.of("0", "01", "02", "023", "014", "05", "016").get(w.people.get(p).kind);
            unless(above.contains("" + kind), "KIND");
            return p;
        });
    }

    private Page page(int s) {
        unless(between(s, 0, 3), "BEYOND");
        unless(pages[s] != null, "MISSING");
        return pages[s];
    }

    public int sheet(int s, int bits, int n) {
        return act(() -> {
            unless(between(s, 0, 3) && List.of(0, 8, 16, 32).contains(bits), "BEYOND");
            unless(n >= 0, "SIZE");
            unless(n <= 40, "BEYOND");
            pages[s] = bits == 0 ? null : new Page(bits, n);
            return bits == 0 ? 0 : n;
        });
    }

    public int write(int s, int i, int v) {
        return act(() -> {
            Page page = page(s);
            unless(between(i, 0, page.row.length - 1), "BEYOND");
            page.row[i] = v << 32 - page.bits >> 32 - page.bits;
            return 1;
        });
    }

    public int copy(int s, int from, int t, int to, int n) {
        return act(() -> {
            unless(between(s, 0, 3) && between(t, 0, 3), "BEYOND");
            Page a = page(s);
            Page b = page(t);
            unless(a.bits == b.bits, "KIND");
            unless(from >= 0 && to >= 0 && n >= 0, "BEYOND");
            unless((long) from + n <= a.row.length && (long) to + n <= b.row.length, "BEYOND");
            int[] was = a.row.clone();
            for (int i = 0; i < n; i++) {
                b.row[to + i] = was[from + i];
            }
            return n;
        });
    }

    public int load(int s) {
        return act(() -> {
            int[] row = page(s).row;
            for (int i = 0; i < row.length; i++) {
                if (i >= w.people.size() || row[i] != -1 && (!is(row[i]) || row[i] == i)) {
                    return i;
                }
                resent(w.people.get(i), row[i]);
            }
            return row.length;
        });
    }

    public int judge(int s) {
        return act(() -> {
            int[] row = page(s).row;
            inTime(row.length);
            for (int i = 0; i < row.length; i++) {
                if (row[i] != set(w.twin().go(i + 1).inRank(0))) {
                    return 1 + i;
                }
            }
            return 0;
        });
    }

    // ---- images

    public int image() {
        kept = w.twin();
        return 1;
    }

    public int back() {
        return act(() -> {
            unless(kept != null, "NONE");
            w = kept.twin();
            return w.month;
        });
    }

    public int tear() {
        int was = kept == null ? 0 : 1;
        kept = null;
        return was;
    }

    public int count(int what) {
        return act(() -> {
            unless(between(what, 0, 7), "BEYOND");
            return new int[] {w.month, w.people.size(), (int) w.people.stream().filter(p -> p.rank == null).count(),
                w.turned, w.gold(), w.grudges(), tape.length(), w.z}[what];
        });
    }

    public int status(int which) {
        return act(() -> {
            unless(between(which, -1, 6), "BEYOND");
            return which < 0 ? IntStream.of(tally).sum() : tally[which];
        });
    }
}
