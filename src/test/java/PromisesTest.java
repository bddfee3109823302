/** Each promise of the document by hand: ordinary inputs, the edges that it names, wrong inputs. */
public final class PromisesTest {
    private static final int BEYOND = -1000001;
    private static final int FULL = -1000002;
    private static final int KIND = -1000003;
    private static final int NONE = -1000004;
    private static final int STATE = -1000005;
    private static final int MISSING = -1000006;
    private static final int SIZE = -1000007;

    private static final int MIN = Integer.MIN_VALUE;
    private static final int MAX = Integer.MAX_VALUE;

    private static int promise;
    private static int wrong = 0;
    private static int asked = 0;

    public static void main(String[] args) {
        newObject();
        ranksAndPersons();
        whoTrembles();
        months();
        gifts();
        plots();
        texts();
        spotsAndSheets();
        images();
        System.out.println("PromisesTest: " + (asked - wrong) + " answers as due, " + wrong + " not");
        if (wrong != 0) {
            System.exit(1);
        }
    }

    private static void due(String what, int want, int got) {
        asked++;
        if (want != got) {
            wrong++;
            System.out.println("promise " + promise + ": " + what + " answered " + got + ", due is " + want);
        }
    }

    // ---- helpers

    /** An empire with a person in each of these ranks, all of one kind. */
    private static TwoBelow empire(int kind, int... ranks) {
        TwoBelow x = new TwoBelow();
        for (int r = 0; r < 8; r++) {
            x.seats(r, 4);
        }
        for (int rank : ranks) {
            x.person(kind, rank);
        }
        return x;
    }

    private static int text(TwoBelow x, String text) {
        x.wipe();
        for (int i = 0; i < text.length(); i++) {
            x.feed(text.charAt(i), 1);
        }
        return x.text();
    }

    private static TwoBelow late(TwoBelow x, int month) {
        while (x.count(0) < month) {
            x.months(Math.min(60, month - x.count(0)));
        }
        return x;
    }

    /** What can be seen of all persons and ranks, in one number. */
    private static int print(TwoBelow x) {
        int sum = 0;
        for (int p = 0; p < 12 && p < x.count(1); p++) {
            for (int what = 0; what < 7; what++) {
                sum = sum * 31 + x.of(p, what);
            }
        }
        for (int r = 0; r < 8; r++) {
            sum = sum * 31 + x.rankOf(r, 0);
            sum = sum * 31 + x.rankOf(r, 2);
        }
        for (int what = 0; what < 8; what++) {
            sum = sum * 31 + x.count(what);
        }
        return sum;
    }

    // ---- promise 1

    private static void newObject() {
        promise = 1;
        TwoBelow x = new TwoBelow();
        for (int what = 0; what < 7; what++) {
            due("count(" + what + ")", 0, x.count(what));
        }
        due("count(7)", 1, x.count(7));
        for (int r = 0; r < 8; r++) {
            due("SEATS at first", 3, x.rankOf(r, 0));
            due("nobody in a rank", 0, x.rankOf(r, 2));
        }
        due("LAW at first", 0, x.law(0, 0));
        due("PARTS at first", 3, x.law(1, 3));
        due("PRICE at first", 50, x.law(2, 50));
        due("no finding yet", 0, x.status(-1));
        for (int spot = 0; spot < 10; spot++) {
            due("a spot holds nothing", MISSING, x.as(spot, 0));
        }
        for (int s = 0; s < 4; s++) {
            due("a sheet is missing", MISSING, x.load(s));
        }
        due("nothing is kept", NONE, x.back());
        due("nothing to tear", 0, x.tear());
        due("an empty tape", 0, x.wipe());
    }

    // ---- promises 2 to 11

    private static void ranksAndPersons() {
        seats();
        rankOf();
        law();
        person();
        of();
        change();
        grudge();
        put();
        gift();
        exchange();
    }

    private static void seats() {
        promise = 2;
        TwoBelow x = new TwoBelow();
        due("seats(0, 4)", 3, x.seats(0, 4));
        due("seats(0, 0)", 4, x.seats(0, 0));
        due("seats(7, 1)", 3, x.seats(7, 1));
        due("seats now", 0, x.rankOf(0, 0));
        for (int bad : new int[] {-1, 8, MIN, MAX}) {
            due("no such rank", BEYOND, x.seats(bad, 1));
        }
        for (int bad : new int[] {-1, 5, MIN, MAX}) {
            due("so many seats", BEYOND, x.seats(1, bad));
        }
        x.person(0, 1);
        x.person(6, 1);
        due("more are in it", STATE, x.seats(1, 1));
        due("unchanged", 3, x.rankOf(1, 0));
        due("as many are in it", 3, x.seats(1, 2));
        due("BEYOND goes first", BEYOND, x.seats(1, 5));
    }

    private static void rankOf() {
        promise = 3;
        TwoBelow x = empire(0, 2, 3, 2);
        x.person(6, 2);
        x.change(0, 4, 1);
        x.change(2, 4, 20);
        x.change(3, 4, 300);
        x.change(1, 4, 4000);
        due("SEATS", 4, x.rankOf(2, 0));
        due("how many", 3, x.rankOf(2, 1));
        due("who", 1 + 4 + 8, x.rankOf(2, 2));
        due("how many count", 2, x.rankOf(2, 3));
        due("gold of all", 321, x.rankOf(2, 4));
        due("gold of nobody", 0, x.rankOf(0, 4));
        x.put(0, -1);
        due("one less", 4 + 8, x.rankOf(2, 2));
        for (int bad : new int[] {-1, 8, MIN, MAX}) {
            due("no such rank", BEYOND, x.rankOf(bad, 0));
        }
        for (int bad : new int[] {-1, 5, MIN, MAX}) {
            due("no such what", BEYOND, x.rankOf(0, bad));
        }
    }

    private static void law() {
        promise = 4;
        TwoBelow x = new TwoBelow();
        due("LAW was", 0, x.law(0, 2));
        due("LAW was", 2, x.law(0, 1));
        due("PARTS was", 3, x.law(1, 5));
        due("PARTS was", 5, x.law(1, 1));
        due("PRICE was", 50, x.law(2, 999));
        due("PRICE was", 999, x.law(2, 0));
        due("LAW 3", BEYOND, x.law(0, 3));
        due("LAW -1", BEYOND, x.law(0, -1));
        due("PARTS 0", BEYOND, x.law(1, 0));
        due("PARTS 6", BEYOND, x.law(1, 6));
        due("PRICE 1000", BEYOND, x.law(2, 1000));
        due("PRICE -1", BEYOND, x.law(2, -1));
        for (int bad : new int[] {-1, 3, MIN, MAX}) {
            due("no such what", BEYOND, x.law(bad, 1));
        }
        due("LAW is as it was", 1, x.law(0, 0));
        due("PARTS are as they were", 1, x.law(1, 1));
        due("PRICE is as it was", 0, x.law(2, 0));
    }

    private static void person() {
        promise = 5;
        TwoBelow x = new TwoBelow();
        for (int kind = 0; kind < 7; kind++) {
            due("a new one", kind, x.person(kind, kind));
            due("its kind", kind, x.of(kind, 0));
            due("its rank", kind, x.of(kind, 1));
        }
        int[] first = {6, 6, 30, 0, 100, -1, 0};
        for (int what = 0; what < 7; what++) {
            due("as at first: " + what, first[what], x.of(6, what));
        }
        for (int bad : new int[] {-1, 7, MIN, MAX}) {
            due("no such kind", BEYOND, x.person(bad, 0));
        }
        for (int bad : new int[] {-1, 8, MIN, MAX}) {
            due("no such rank", BEYOND, x.person(0, bad));
        }
        due("the second in rank 0", 7, x.person(0, 0));
        due("the third in rank 0", 8, x.person(0, 0));
        due("no seat free", STATE, x.person(0, 0));
        due("the tenth", 9, x.person(0, 7));
        due("the eleventh", 10, x.person(0, 7));
        due("the twelfth", 11, x.person(0, 7));
        due("no seat free goes ahead of FULL", STATE, x.person(0, 7));
        due("FULL", FULL, x.person(0, 1));
        due("still twelve", 12, x.count(1));
        x.put(11, -1);
        due("one OUT still counts", FULL, x.person(0, 7));
    }

    private static void of() {
        promise = 6;
        TwoBelow x = empire(3, 0, 5);
        x.change(1, 2, 44);
        x.change(1, 3, 2);
        x.change(1, 4, 777);
        x.grudge(1, 0);
        x.gift(1, 5);
        int[] now = {3, 5, 44, 2, 782, 0, 5};
        for (int what = 0; what < 7; what++) {
            due("of(1, " + what + ")", now[what], x.of(1, what));
        }
        x.put(1, -1);
        due("OUT", -1, x.of(1, 1));
        for (int bad : new int[] {-1, 2, 12, MIN, MAX}) {
            due("no such person", BEYOND, x.of(bad, 0));
        }
        for (int bad : new int[] {-1, 7, MIN, MAX}) {
            due("no such what", BEYOND, x.of(0, bad));
        }
    }

    private static void change() {
        promise = 7;
        TwoBelow x = empire(0, 0);
        int[][] good = {{0, 0, 6}, {2, 30, 99}, {3, 0, 3}, {4, 100, 9999}};
        for (int[] g : good) {
            due("what it was: " + g[0], g[1], x.change(0, g[0], g[2]));
            due("the most: " + g[0], g[2], x.of(0, g[0]));
            due("one more: " + g[0], BEYOND, x.change(0, g[0], g[2] + 1));
            due("below 0: " + g[0], BEYOND, x.change(0, g[0], -1));
            due("unchanged: " + g[0], g[2], x.change(0, g[0], 0));
        }
        for (int bad : new int[] {1, 5, 6, 7, -1, MIN, MAX}) {
            due("no such what", BEYOND, x.change(0, bad, 0));
        }
        for (int bad : new int[] {-1, 1, MIN, MAX}) {
            due("no such person", BEYOND, x.change(bad, 0, 0));
        }
        due("its rank is as it was", 0, x.of(0, 1));
        due("its grudge is as it was", -1, x.of(0, 5));
    }

    private static void grudge() {
        promise = 8;
        TwoBelow x = empire(2, 0, 1, 2);
        due("nobody before", -1, x.grudge(2, 0));
        x.gift(2, 7);
        due("a gift", 7, x.of(2, 6));
        due("the same one again", 0, x.grudge(2, 0));
        due("the gift is 0, always", 0, x.of(2, 6));
        x.gift(2, 7);
        due("another one", 0, x.grudge(2, 1));
        due("the gift is 0", 0, x.of(2, 6));
        x.gift(2, 7);
        due("none", 1, x.grudge(2, -1));
        due("the gift is 0 with none, too", 0, x.of(2, 6));
        due("none before", -1, x.grudge(2, -1));
        due("itself", BEYOND, x.grudge(2, 2));
        for (int bad : new int[] {-2, 3, MIN, MAX}) {
            due("no such other", BEYOND, x.grudge(0, bad));
        }
        for (int bad : new int[] {-1, 3, MIN, MAX}) {
            due("no such person", BEYOND, x.grudge(bad, 0));
        }
    }

    private static void put() {
        promise = 9;
        TwoBelow x = empire(0, 4, 4);
        due("turned out", 4, x.put(0, -1));
        due("OUT", -1, x.of(0, 1));
        due("one who is OUT, and -1", STATE, x.put(0, -1));
        due("this is not counted as TURNED", 0, x.count(3));
        x.seats(3, 0);
        due("no seat", STATE, x.put(0, 3));
        due("comes in", -1, x.put(0, 7));
        due("is in", 7, x.of(0, 1));
        due("one in a rank into a rank", STATE, x.put(0, 5));
        due("into its own", STATE, x.put(0, 7));
        for (int bad : new int[] {-2, 8, MIN, MAX}) {
            due("no such rank", BEYOND, x.put(0, bad));
        }
        for (int bad : new int[] {-1, 2, MIN, MAX}) {
            due("no such person", BEYOND, x.put(bad, -1));
        }
        x.seats(4, 1);
        x.put(0, -1);
        due("the rank is full", STATE, x.put(0, 4));
        x.put(1, -1);
        due("the rank is free", -1, x.put(0, 4));
    }

    private static void gift() {
        promise = 10;
        TwoBelow x = empire(2, 0, 2);
        due("nobody's grudge", STATE, x.gift(1, 1));
        x.grudge(1, 0);
        due("GIFT then", 30, x.gift(1, 30));
        due("GIFT then", 70, x.gift(1, 40));
        due("the giver has less", 30, x.of(0, 4));
        due("the taker has more", 170, x.of(1, 4));
        due("that one hasn't so much", STATE, x.gift(1, 31));
        due("all he has", 100, x.gift(1, 30));
        x.change(0, 4, 9999);
        x.change(1, 4, 9990);
        due("this one would have more than 9999", STATE, x.gift(1, 10));
        due("just 9999", 109, x.gift(1, 9));
        x.change(1, 4, 0);
        due("9990 at once, all that is left", 10099, x.gift(1, 9990));
        for (int bad : new int[] {0, -1, 10000, MIN, MAX}) {
            due("no such gift", BEYOND, x.gift(1, bad));
        }
        for (int bad : new int[] {-1, 2, MIN, MAX}) {
            due("no such person", BEYOND, x.gift(bad, 1));
        }
        due("BEYOND goes first", BEYOND, x.gift(0, 0));
        x.put(0, -1);
        x.change(0, 4, 5);
        x.change(1, 4, 5);
        due("one who is OUT may give", 10104, x.gift(1, 5));
    }

    private static void exchange() {
        promise = 11;
        TwoBelow x = empire(0, 0, 5, 3);
        due("exchange", 1, x.exchange(0, 1));
        due("rank of one", 5, x.of(0, 1));
        due("rank of other", 0, x.of(1, 1));
        due("who is in 0", 2, x.rankOf(0, 2));
        due("who is in 5", 1, x.rankOf(5, 2));
        due("itself", BEYOND, x.exchange(1, 1));
        for (int bad : new int[] {-1, 3, MIN, MAX}) {
            due("no such one", BEYOND, x.exchange(bad, 0));
            due("no such other", BEYOND, x.exchange(0, bad));
        }
        x.put(2, -1);
        due("other is OUT", STATE, x.exchange(0, 2));
        due("one is OUT", STATE, x.exchange(2, 0));
        due("itself, OUT", BEYOND, x.exchange(2, 2));
        due("unchanged", 5, x.of(0, 1));
    }

    // ---- promises 12 to 16

    private static void whoTrembles() {
        wants();
        against();
        lacks();
        tremble();
        heir();
    }

    private static void wants() {
        promise = 12;
        TwoBelow x = empire(0, 0, 2, 4, 0);
        x.grudge(1, 0);
        due("a person its grudge", 1, x.wants(1, 0));
        due("a person another", 0, x.wants(1, 3));
        due("not the other way", 0, x.wants(0, 1));
        x.grudge(2, 0);
        due("ranks are not asked", 1, x.wants(2, 0));
        x.change(1, 0, 1);
        due("a loyal one", 0, x.wants(1, 0));
        x.change(1, 0, 6);
        due("a hermit", 0, x.wants(1, 0));
        wantsOfBought(x);
        wantsOfSly(x);
        wantsOfKin(x);
        wantsOfPlotter(x);
        due("itself", BEYOND, x.wants(1, 1));
        for (int bad : new int[] {-1, 4, MIN, MAX}) {
            due("no such one", BEYOND, x.wants(bad, 0));
            due("no such other", BEYOND, x.wants(0, bad));
        }
    }

    private static void wantsOfBought(TwoBelow x) {
        x.change(1, 0, 2);
        due("a bought one, not yet bought", 1, x.wants(1, 0));
        x.gift(1, 49);
        due("below the price", 1, x.wants(1, 0));
        x.gift(1, 1);
        due("at the price", 0, x.wants(1, 0));
        x.law(2, 51);
        due("the price has risen", 1, x.wants(1, 0));
        x.law(2, 0);
        x.grudge(1, 0);
        due("price 0: no gift is enough", 0, x.wants(1, 0));
        x.law(2, 50);
        x.change(0, 4, 100);
        x.change(1, 4, 100);
    }

    private static void wantsOfSly(TwoBelow x) {
        x.change(1, 0, 3);
        x.grudge(1, 3);
        due("sly: its grudge", 1, x.wants(1, 3));
        due("sly: most gold, least number", 1, x.wants(1, 0));
        x.grudge(1, -1);
        due("sly: as much gold, a greater number", 0, x.wants(1, 3));
        x.change(3, 4, 101);
        due("sly: most gold", 1, x.wants(1, 3));
        due("sly: not most gold", 0, x.wants(1, 0));
        due("sly: alone in a rank", 1, x.wants(1, 2));
        x.put(3, -1);
        due("sly: one OUT has most in none", 0, x.wants(1, 3));
        due("sly: of those who are left", 1, x.wants(1, 0));
        x.grudge(1, 0);
        x.gift(1, 60);
        due("sly: bought, but most gold", 1, x.wants(1, 0));
        x.put(3, 0);
        due("sly: bought, not most gold", 0, x.wants(1, 0));
        x.put(1, -1);
        due("sly: he may be OUT himself", 1, x.wants(1, 3));
        x.put(1, 2);
    }

    private static void wantsOfKin(TwoBelow x) {
        x.change(1, 0, 4);
        x.grudge(1, 0);
        due("kin: the same house", 0, x.wants(1, 0));
        x.change(0, 3, 1);
        due("kin: another house", 1, x.wants(1, 0));
        x.grudge(1, -1);
        due("kin: another house, no grudge", 0, x.wants(1, 0));
    }

    private static void wantsOfPlotter(TwoBelow x) {
        x.change(1, 0, 5);
        due("plotter: as old", 0, x.wants(1, 0));
        x.change(0, 2, 31);
        due("plotter: elder, two ranks above", 1, x.wants(1, 0));
        x.change(2, 2, 90);
        due("plotter: elder, two ranks below", 0, x.wants(1, 2));
        x.exchange(0, 2);
        due("plotter: two above now", 1, x.wants(1, 2));
        due("plotter: below now", 0, x.wants(1, 0));
        x.grudge(1, 0);
        due("plotter: its grudge", 1, x.wants(1, 0));
        x.grudge(1, -1);
        x.put(1, -1);
        due("plotter: he is OUT", 0, x.wants(1, 2));
        x.put(1, 1);
        x.put(2, -1);
        due("plotter: -1 is not two less than 1", 0, x.wants(1, 2));
        x.put(2, 0);
        due("plotter: one rank above", 0, x.wants(1, 2));
    }

    private static void against() {
        promise = 13;
        TwoBelow x = empire(0, 0, 2, 2, 2, 3, 6, 7);
        x.grudge(1, 0);
        x.grudge(3, 0);
        x.grudge(4, 0);
        due("those two below alone", 2 + 8, x.against(0));
        x.change(3, 0, 6);
        due("a hermit not", 2, x.against(0));
        due("nobody", 0, x.against(1));
        due("rank 6", 0, x.against(5));
        due("rank 7", 0, x.against(6));
        x.put(0, -1);
        due("OUT", STATE, x.against(0));
        for (int bad : new int[] {-1, 7, MIN, MAX}) {
            due("no such person", BEYOND, x.against(bad));
        }
    }

    private static void lacks() {
        promise = 14;
        TwoBelow x = empire(0, 0, 2, 2, 2, 2, 6, 7, 1);
        due("a third of four: two", 2, x.lacks(0));
        x.grudge(1, 0);
        due("one more", 1, x.lacks(0));
        x.grudge(2, 0);
        due("enough", 0, x.lacks(0));
        x.grudge(3, 0);
        due("more than enough", 0, x.lacks(0));
        x.law(1, 1);
        due("all must", 1, x.lacks(0));
        x.law(1, 2);
        due("half must", 0, x.lacks(0));
        x.grudge(1, -1);
        x.grudge(2, -1);
        x.grudge(3, -1);
        x.law(1, 5);
        due("one at least", 1, x.lacks(0));
        x.change(1, 0, 1);
        x.change(2, 0, 1);
        x.change(3, 0, 1);
        x.change(4, 0, 1);
        due("loyal ones count, and might", 1, x.lacks(0));
        x.change(1, 0, 6);
        x.change(2, 0, 6);
        x.change(3, 0, 6);
        x.change(4, 0, 6);
        due("hermits do not count", NONE, x.lacks(0));
        due("nobody is in rank 3", NONE, x.lacks(7));
        due("rank 6", NONE, x.lacks(5));
        due("rank 7", NONE, x.lacks(6));
        x.put(0, -1);
        due("OUT", STATE, x.lacks(0));
        for (int bad : new int[] {-1, 8, MIN, MAX}) {
            due("no such person", BEYOND, x.lacks(bad));
        }
    }

    private static void tremble() {
        promise = 15;
        TwoBelow x = empire(0, 0, 2, 2, 2, 4, 5, 7);
        due("nobody", 0, x.tremble());
        x.grudge(1, 0);
        x.grudge(4, 2);
        x.grudge(6, 5);
        due("a third, one of one, from rank 7, too", 1 + 4 + 32, x.tremble());
        x.law(1, 2);
        due("one of three is less than half", 4 + 32, x.tremble());
        x.change(2, 0, 6);
        due("one of two who count", 1 + 4 + 32, x.tremble());
        x.put(5, -1);
        due("one OUT does not tremble", 1 + 4, x.tremble());
        due("nothing changes", 0, x.of(0, 1));
        x = empire(0, 0, 2, 2, 2, 2);
        x.grudge(1, 0);
        due("one of four is less than a third", 0, x.tremble());
        x.law(1, 4);
        due("one of four is a fourth", 1, x.tremble());
    }

    private static void heir() {
        promise = 16;
        TwoBelow x = empire(0, 1, 1, 1, 7);
        x.change(1, 2, 50);
        x.change(2, 2, 50);
        x.change(2, 4, 200);
        due("the eldest, the least number", 1, x.heir(0));
        x.law(0, 1);
        due("the richest", 2, x.heir(0));
        x.change(0, 4, 200);
        due("the richest, the least number", 0, x.heir(0));
        x.law(0, 2);
        x.put(0, -1);
        due("the least number", 1, x.heir(0));
        x.seats(0, 0);
        due("SEATS are not asked", 1, x.heir(0));
        due("rank 6", 3, x.heir(6));
        for (int law = 0; law < 3; law++) {
            x.law(0, law);
            due("nobody", NONE, x.heir(1));
        }
        for (int bad : new int[] {-1, 7, 8, MIN, MAX}) {
            due("no such rank", BEYOND, x.heir(bad));
        }
    }

    // ---- promises 17 to 21

    private static void months() {
        monthsGo();
        monthsFill();
        monthsGrow();
        ahead();
        sits();
        rises();
        worth();
    }

    private static void monthsGo() {
        promise = 17;
        TwoBelow x = empire(0, 0, 2, 2, 2);
        x.seats(1, 3);
        x.grudge(1, 0);
        due("one is turned out", 1, x.months(1));
        due("he is OUT", -1, x.of(0, 1));
        due("and gets no coins", 100, x.of(0, 4));
        due("rank 0 was passed before 1 was filled", 0, x.rankOf(0, 1));
        due("all three moved up by one", 2 + 4 + 8, x.rankOf(1, 2));
        due("coins by the new rank", 107, x.of(1, 4));
        due("TURNED", 1, x.count(3));
        due("MONTH", 1, x.count(0));
        due("none is turned out", 0, x.months(2));
        due("now they are on top", 2 + 4 + 8, x.rankOf(0, 2));
        due("coins of rank 0, twice", 123, x.of(3, 4));
        due("MONTH", 3, x.count(0));
        for (int bad : new int[] {0, -1, 61, MIN, MAX}) {
            due("so many months", BEYOND, x.months(bad));
        }
        late(x, 959);
        due("MONTH would be 1000", STATE, x.months(41));
        due("not yet", 959, x.count(0));
        due("just 999", 0, x.months(40));
        due("MONTH", 999, x.count(0));
        due("no month more", STATE, x.months(1));
        due("BEYOND goes first", BEYOND, x.months(61));
        due("gold has grown by 8 a month", 107 + 998 * 8, x.of(1, 4));
        x = empire(0, 0, 2, 2, 4, 4);
        x.grudge(1, 0);
        x.grudge(3, 1);
        due("all at once: one who falls still turns out another", 2, x.months(1));
    }

    private static void monthsFill() {
        TwoBelow x = empire(0, 1, 1, 1, 2, 2, 3);
        x.seats(0, 2);
        x.seats(1, 3);
        x.seats(2, 1);
        x.seats(3, 1);
        due("STATE: more are in it", 4, x.rankOf(2, 0));
        x.seats(2, 2);
        x.change(1, 2, 40);
        x.change(2, 2, 35);
        x.change(3, 2, 60);
        x.change(4, 2, 70);
        x.months(1);
        due("the two eldest are on top", 2 + 4, x.rankOf(0, 2));
        due("the seats that they left are filled", 1 + 8 + 16, x.rankOf(1, 2));
        due("and those", 32, x.rankOf(2, 2));
        due("and nobody is left", 0, x.rankOf(3, 2));
        x = empire(0, 1, 1, 1);
        x.seats(0, 1);
        x.law(0, 1);
        x.change(2, 4, 500);
        x.months(1);
        due("the richest", 4, x.rankOf(0, 2));
        x = empire(0, 1, 1, 1);
        x.seats(0, 1);
        x.law(0, 2);
        x.change(2, 4, 500);
        x.change(1, 2, 50);
        x.months(1);
        due("the least number", 1, x.rankOf(0, 2));
        x = empire(0, 7, 6);
        x.seats(6, 1);
        x.seats(5, 0);
        x.months(1);
        due("rank 7 pays 1", 101, x.of(0, 4));
        x.put(1, -1);
        x.months(1);
        due("rank 7 moves up, too", 6, x.of(0, 1));
        x = empire(6, 1);
        x.months(1);
        due("a hermit moves up", 0, x.of(0, 1));
    }

    private static void monthsGrow() {
        TwoBelow x = empire(0, 0, 0, 7);
        x.seats(6, 0);
        x.put(1, -1);
        x.change(2, 2, 99);
        x.change(0, 4, 9985);
        x.months(11);
        due("not yet a year", 30, x.of(0, 2));
        due("9999 at most", 9999, x.of(0, 4));
        x.months(1);
        due("a year", 31, x.of(0, 2));
        due("a year for one OUT", 31, x.of(1, 2));
        due("99 at most", 99, x.of(2, 2));
        x.months(12);
        due("two years", 32, x.of(0, 2));
    }

    private static void ahead() {
        promise = 18;
        TwoBelow x = empire(0, 0, 2, 2, 2);
        x.seats(1, 3);
        x.grudge(1, 0);
        x.put(x.person(0, 7), -1);
        int before = print(x);
        due("OUT now", 16, x.ahead(0, 0));
        due("OUT then", 17, x.ahead(1, 0));
        due("TURNED in none", 0, x.ahead(0, 1));
        due("TURNED then", 1, x.ahead(5, 1));
        due("GOLD now", 500, x.ahead(0, 2));
        due("GOLD then", 500 + 3 * 7 + 3 * 8, x.ahead(2, 2));
        due("in rank 0 now", 1, x.ahead(0, 3));
        due("in rank 0 then", 0, x.ahead(1, 3));
        due("in rank 0 later", 14, x.ahead(120, 3));
        due("rank of 1 now", 2, x.ahead(0, 5));
        due("rank of 1 then", 1, x.ahead(1, 5));
        due("rank of 4", -1, x.ahead(120, 8));
        due("nothing changes", before, print(x));
        x.months(1);
        due("TURNED in them alone", 0, x.ahead(5, 1));
        for (int bad : new int[] {-1, 121, MIN, MAX}) {
            due("so many months", BEYOND, x.ahead(bad, 0));
        }
        for (int bad : new int[] {-1, 9, 16, MIN, MAX}) {
            due("no such what", BEYOND, x.ahead(0, bad));
        }
        due("there is no person 0", BEYOND, new TwoBelow().ahead(0, 4));
        late(x, 880);
        due("MONTH would be 1000", STATE, x.ahead(120, 0));
        due("MONTH would be 999", 17, x.ahead(119, 0));
        due("BEYOND goes first", BEYOND, x.ahead(120, 9));
    }

    private static void sits() {
        promise = 19;
        TwoBelow x = empire(0, 0, 2, 4);
        x.grudge(1, 0);
        x.grudge(2, 1);
        due("one month", 1, x.sits(0));
        due("so does he who falls with him", 1, x.sits(1));
        due("for ever", NONE, x.sits(2));
        due("nothing changes", 0, x.of(0, 1));
        x = empire(0, 0, 3);
        x.seats(0, 1);
        x.seats(1, 0);
        x.grudge(1, 0);
        due("he moves up to where he can, and strikes a month later", 2, x.sits(0));
        x.put(1, -1);
        due("OUT", STATE, x.sits(1));
        for (int bad : new int[] {-1, 2, MIN, MAX}) {
            due("no such person", BEYOND, x.sits(bad));
        }
        late(x, 879);
        due("MONTH is 879", NONE, x.sits(0));
        x.months(1);
        due("MONTH is 880", STATE, x.sits(0));
        sitsByGoldAndAge();
    }

    private static void sitsByGoldAndAge() {
        TwoBelow x = empire(3, 0, 0, 2);
        x.seats(0, 2);
        x.seats(1, 0);
        x.change(0, 4, 0);
        x.change(1, 4, 1);
        due("the richer one falls first", 1, x.sits(1));
        due("then the other one", 2, x.sits(0));
        x = empire(5, 0, 2);
        x.seats(1, 0);
        due("as old as the plotter for ever", NONE, x.sits(0));
        x.change(0, 2, 98);
        x.change(1, 2, 98);
        due("so, too, at 99", NONE, x.sits(0));
        x.change(0, 2, 31);
        x.change(1, 2, 30);
        due("elder", 1, x.sits(0));
        x = empire(0, 0, 0, 2, 2);
        x.seats(0, 2);
        x.seats(1, 0);
        x.law(1, 1);
        x.change(3, 0, 3);
        x.grudge(2, 0);
        x.change(1, 4, 9999);
        x.change(0, 4, 9999 - 8 * 119);
        due("as rich as can be behind 119 months, so OUT behind 120", 120, x.sits(0));
        x.change(0, 4, 9999 - 8 * 119 - 1);
        due("OUT behind 121", NONE, x.sits(0));
    }

    private static void rises() {
        promise = 20;
        TwoBelow x = empire(0, 5, 5);
        x.grudge(1, 0);
        due("now", 5, x.rises(0, 0));
        due("one up", 4, x.rises(0, 1));
        due("to the top", 0, x.rises(0, 5));
        due("and no higher", 0, x.rises(0, 120));
        x = empire(0, 2, 4, 4, 4, 4);
        x.seats(0, 0);
        x.seats(2, 1);
        x.seats(3, 1);
        x.change(1, 2, 40);
        x.grudge(1, 0);
        due("OUT in the second month", 2, x.sits(0));
        due("one up, and then OUT, which does not count", 1, x.rises(0, 60));
        x.put(0, -1);
        due("OUT all the time", NONE, x.rises(0, 60));
        due("OUT now", NONE, x.rises(0, 0));
        for (int bad : new int[] {-1, 5, MIN, MAX}) {
            due("no such person", BEYOND, x.rises(bad, 0));
        }
        for (int bad : new int[] {-1, 121, MIN, MAX}) {
            due("so many months", BEYOND, x.rises(1, bad));
        }
        late(x, 990);
        due("MONTH would be 1000", STATE, x.rises(1, 10));
        due("STATE goes ahead of NONE", STATE, x.rises(0, 10));
        due("MONTH would be 999", 1, x.rises(1, 9));
    }

    private static void worth() {
        promise = 21;
        TwoBelow x = empire(0, 7, 0, 0, 0, 0);
        x.seats(6, 0);
        due("rank 7", 12, x.worth(0, 7, 12));
        due("rank 0, though there is no seat", 96, x.worth(0, 0, 12));
        x.put(0, -1);
        due("it may be OUT", 8, x.worth(0, 0, 1));
        due("nothing changes", -1, x.of(0, 1));
        x.change(0, 4, 9990);
        due("9999 at most", 9, x.worth(0, 0, 120));
        x = empire(0, 5, 2);
        x.grudge(1, 0);
        x.seats(1, 0);
        due("turned out at once", 0, x.worth(0, 0, 60));
        for (int bad : new int[] {-1, 2, MIN, MAX}) {
            due("no such person", BEYOND, x.worth(bad, 0, 1));
        }
        for (int bad : new int[] {-1, 8, MIN, MAX}) {
            due("no such rank", BEYOND, x.worth(0, bad, 1));
        }
        for (int bad : new int[] {0, -1, 121, MIN, MAX}) {
            due("so many months", BEYOND, x.worth(0, 0, bad));
        }
        late(x, 990);
        due("MONTH would be 1000", STATE, x.worth(1, 0, 10));
        due("MONTH would be 999", 72, x.worth(1, 0, 9));
    }

    // ---- promises 22 to 25

    private static void gifts() {
        least();
        best();
        partsFor();
        kindFor();
    }

    private static void least() {
        promise = 22;
        TwoBelow x = empire(2, 0, 2);
        x.seats(1, 0);
        due("there is no GRUDGE", STATE, x.least(1, 1));
        x.grudge(1, 0);
        due("the price", 50, x.least(1, 1));
        due("the price, for long", 50, x.least(1, 24));
        due("nothing changes", 100, x.of(0, 4));
        x.gift(1, 20);
        due("what is lacking", 30, x.least(1, 24));
        x.change(0, 4, 29);
        due("that one hasn't so much", NONE, x.least(1, 1));
        x.change(0, 4, 30);
        due("that one has just so much", 30, x.least(1, 1));
        x.change(1, 4, 9970);
        due("this one would have more than 9999", NONE, x.least(1, 1));
        x.change(1, 4, 9969);
        due("this one would have just 9999", 30, x.least(1, 1));
        x.law(2, 20);
        due("bought already", 0, x.least(1, 1));
        leastByGold();
        x.change(1, 4, 0);
        x.law(2, 999);
        x.change(1, 0, 2);
        x.grudge(1, 0);
        x.change(0, 4, 999);
        due("999", 999, x.least(1, 1));
        x.change(1, 0, 0);
        due("one who can't be bought", NONE, x.least(1, 1));
        x.put(0, -1);
        due("that one is OUT", STATE, x.least(1, 1));
        for (int bad : new int[] {-1, 2, MIN, MAX}) {
            due("no such person", BEYOND, x.least(bad, 1));
        }
        for (int bad : new int[] {0, -1, 25, MIN, MAX}) {
            due("so many months", BEYOND, x.least(1, bad));
        }
        late(x, 980);
        x.put(1, -1);
        x.put(1, 2);
        x.put(0, 0);
        due("MONTH would be 1000", STATE, x.least(1, 20));
        due("MONTH would be 999", NONE, x.least(1, 19));
    }

    /** A gift may save the giver by making him poorer than another one, too. */
    private static void leastByGold() {
        TwoBelow x = empire(0, 0, 0, 2, 5);
        x.seats(0, 2);
        x.seats(1, 0);
        x.seats(4, 0);
        x.change(2, 0, 3);
        x.change(0, 4, 100);
        x.change(1, 4, 90);
        x.grudge(3, 0);
        due("as poor is not enough: the least number counts", 11, x.least(3, 1));
        due("the other one falls first, then he does", NONE, x.least(3, 2));
        x.change(0, 4, 1088);
        due("999 at most", 999, x.least(3, 1));
        x.change(0, 4, 1089);
        due("1000 would be needed", NONE, x.least(3, 1));
    }

    private static void best() {
        promise = 23;
        TwoBelow x = empire(0, 1, 1, 1);
        x.seats(0, 1);
        x.change(1, 2, 50);
        x.change(2, 4, 500);
        due("the least number", 2, x.best(0, 1));
        due("the eldest", 0, x.best(1, 1));
        due("the richest", 1, x.best(2, 1));
        due("nothing changes", 0, x.law(0, 2));
        due("whatever the law is", 0, x.best(1, 1));
        x.put(0, -1);
        due("OUT by any law", 0, x.best(0, 60));
        for (int bad : new int[] {-1, 3, MIN, MAX}) {
            due("no such person", BEYOND, x.best(bad, 1));
        }
        for (int bad : new int[] {0, -1, 61, MIN, MAX}) {
            due("so many months", BEYOND, x.best(0, bad));
        }
        late(x, 980);
        due("MONTH would be 1000", STATE, x.best(0, 20));
        due("MONTH would be 999", 0, x.best(0, 19));
    }

    private static void partsFor() {
        promise = 24;
        TwoBelow x = empire(0, 0, 2, 2);
        x.seats(1, 0);
        x.grudge(1, 0);
        due("with 1 nobody falls", 1, x.partsFor(12));
        due("nothing changes", 3, x.law(1, 3));
        x = partsWorld(2);
        due("with 1 two fall, with 2 one", 2, x.partsFor(2));
        due("with 1 none falls in the first month", 1, x.partsFor(1));
        due("with 3", 3, partsWorld(3).partsFor(60));
        due("with 4", 4, partsWorld(4).partsFor(60));
        for (int bad : new int[] {0, -1, 61, MIN, MAX}) {
            due("so many months", BEYOND, x.partsFor(bad));
        }
        x = new TwoBelow();
        due("nobody at all", 1, x.partsFor(60));
        late(x, 980);
        due("MONTH would be 1000", STATE, x.partsFor(20));
        due("MONTH would be 999", 1, x.partsFor(19));
    }

    /**
     * 2 falls in the first month if one of so many is enough; else he comes from rank 3 to where he is alone
     * two below two others, both of whom he wants turned out, one by a grudge and one by his age.
     */
    private static TwoBelow partsWorld(int many) {
        TwoBelow x = empire(0, 0, 0, 3);
        for (int i = 0; i < many; i++) {
            x.person(0, 5);
        }
        x.seats(0, 2);
        x.seats(1, 0);
        x.seats(3, 1);
        x.seats(4, 0);
        x.change(2, 0, 5);
        x.grudge(2, 0);
        x.change(1, 2, 40);
        x.grudge(3, 2);
        return x;
    }

    private static void kindFor() {
        promise = 25;
        TwoBelow x = empire(0, 0, 2);
        x.seats(1, 0);
        due("no kind is better", 0, x.kindFor(1, 1));
        x.seats(0, 1);
        x.seats(1, 1);
        due("a sly one turns out him on top, and rises", 3, x.kindFor(1, 12));
        due("nothing changes", 0, x.of(1, 0));
        kindToRise();
        kindToStay();
        x = empire(0, 0, 2, 4);
        x.seats(1, 0);
        x.seats(3, 0);
        x.seats(0, 1);
        x.put(2, -1);
        due("OUT", 0, x.kindFor(2, 60));
        for (int bad : new int[] {-1, 3, MIN, MAX}) {
            due("no such person", BEYOND, x.kindFor(bad, 1));
        }
        for (int bad : new int[] {0, -1, 61, MIN, MAX}) {
            due("so many months", BEYOND, x.kindFor(0, bad));
        }
        late(x, 980);
        due("MONTH would be 1000", STATE, x.kindFor(0, 20));
        due("MONTH would be 999", 0, x.kindFor(0, 19));
    }

    /** 1 rises if 0 falls, for which all who count two below him must want it; 2 does. */
    private static void kindToRise() {
        TwoBelow x = empire(0, 0, 2, 2, 0, 1);
        x.seats(0, 2);
        x.seats(1, 1);
        x.law(1, 1);
        x.change(1, 2, 50);
        x.grudge(2, 0);
        x.change(3, 4, 200);
        due("as a hermit he is not asked", 6, x.kindFor(1, 1));
        x.change(0, 2, 51);
        due("as a plotter he wants it, as 0 is elder", 5, x.kindFor(1, 1));
        x.change(0, 4, 300);
        due("as a sly one he wants it, as 0 is richer", 3, x.kindFor(1, 1));
        x.grudge(1, 0);
        due("as a person he wants it", 0, x.kindFor(1, 1));
    }

    /** If 0 falls, 1 rises to where 3 turns him out. */
    private static void kindToStay() {
        TwoBelow x = empire(0, 0, 2, 1, 3, 3);
        x.seats(0, 1);
        x.seats(1, 1);
        x.seats(2, 1);
        x.change(4, 2, 60);
        x.grudge(1, 0);
        x.grudge(3, 1);
        due("a loyal one stays where he is", 1, x.kindFor(1, 3));
        due("one month of a higher rank is more", 0, x.kindFor(1, 1));
    }

    // ---- promises 26 to 30

    private static void plots() {
        plot();
        undo();
        safe();
        rumours();
        seed();
    }

    private static void plot() {
        promise = 26;
        TwoBelow x = empire(0, 0, 2, 2, 2, 2);
        x.seats(1, 0);
        due("two of four: the least", 2 + 4, x.plot(0, 1));
        x.law(1, 5);
        due("one of four: the least", 2, x.plot(0, 1));
        x.law(1, 1);
        due("all four", 2 + 4 + 8 + 16, x.plot(0, 12));
        x.grudge(2, 0);
        x.grudge(3, 0);
        due("those who want it need not be in it", 2 + 16, x.plot(0, 1));
        x.change(1, 0, 1);
        due("a loyal one can't be won", NONE, x.plot(0, 1));
        x.change(1, 0, 4);
        x.change(1, 3, 1);
        due("nor can a kin one", NONE, x.plot(0, 1));
        x.grudge(1, 0);
        due("who may want it himself", 16, x.plot(0, 1));
        x.change(1, 0, 6);
        due("a hermit doesn't count", 16, x.plot(0, 1));
        x.grudge(4, 0);
        due("nobody is needed", 0, x.plot(0, 1));
        due("nothing changes", 0, x.of(4, 5));
        x = empire(2, 0, 2);
        x.seats(1, 0);
        x.grudge(1, 0);
        x.gift(1, 50);
        due("the gift is forgotten", 2, x.plot(0, 1));
        due("but not now", 50, x.of(1, 6));
        plotSizes();
        x = empire(0, 0, 2);
        x.put(1, -1);
        due("one OUT can't be won", NONE, x.plot(0, 12));
        due("it is OUT", STATE, x.plot(1, 12));
        for (int bad : new int[] {-1, 2, MIN, MAX}) {
            due("no such person", BEYOND, x.plot(bad, 1));
        }
        for (int bad : new int[] {0, -1, 13, MIN, MAX}) {
            due("so many months", BEYOND, x.plot(0, bad));
        }
        late(x, 990);
        due("MONTH would be 1000", STATE, x.plot(0, 10));
        due("MONTH would be 999", NONE, x.plot(0, 9));
    }

    private static void plotSizes() {
        TwoBelow x = empire(0, 0, 2, 2, 2, 2, 4, 4, 4, 4, 6, 6, 6);
        due("eleven may be in it", SIZE, x.plot(0, 1));
        due("that is counted", 1, x.status(6));
        x.change(11, 0, 1);
        due("ten may be in it", 2 + 4, x.plot(0, 1));
        x.change(11, 0, 0);
        x.put(0, -1);
        due("STATE goes ahead of SIZE", STATE, x.plot(0, 1));
        x.put(0, 0);
        x.put(11, -1);
        due("ten, as one is OUT", 2 + 4, x.plot(0, 1));
        x = empire(0, 0, 3, 2, 2);
        x.law(1, 1);
        x.seats(1, 0);
        x.seats(2, 2);
        due("two now rather than three later", 4 + 8, x.plot(0, 1));
    }

    private static void undo() {
        promise = 27;
        TwoBelow x = empire(0, 0, 2, 2, 4);
        x.seats(1, 0);
        x.seats(3, 0);
        x.grudge(1, 0);
        due("he who wants it", 2, x.undo(0, 1));
        due("he stays anyway", 1 + 2 + 8, x.undo(2, 60));
        x.grudge(2, 0);
        due("none alone", 0, x.undo(0, 60));
        due("nothing changes", 2, x.of(1, 1));
        x.put(3, -1);
        due("one OUT is not told", 1 + 2, x.undo(2, 60));
        due("it is OUT", STATE, x.undo(3, 60));
        for (int bad : new int[] {-1, 4, MIN, MAX}) {
            due("no such person", BEYOND, x.undo(bad, 1));
        }
        for (int bad : new int[] {0, -1, 61, MIN, MAX}) {
            due("so many months", BEYOND, x.undo(0, bad));
        }
        late(x, 980);
        x.put(0, 0);
        due("MONTH would be 1000", STATE, x.undo(2, 20));
        due("MONTH would be 999", 1 + 2, x.undo(2, 19));
    }

    private static void safe() {
        promise = 28;
        TwoBelow x = empire(0, 0, 2, 2, 2, 6, 7, 5);
        due("ranks 6 and 7, and nobody below", 2 + 4 + 8 + 16 + 32, x.safe());
        x.put(6, -1);
        due("one OUT is not told", 2 + 4 + 8 + 16 + 32, x.safe());
        x.change(1, 0, 1);
        x.change(2, 0, 1);
        due("one of three is enough", 2 + 4 + 8 + 16 + 32, x.safe());
        x.law(1, 2);
        due("one of three is not enough", 1 + 2 + 4 + 8 + 16 + 32, x.safe());
        x.change(1, 0, 4);
        due("kin of the same house may not", 1 + 2 + 4 + 8 + 16 + 32, x.safe());
        x.change(0, 3, 3);
        due("kin of another house may", 2 + 4 + 8 + 16 + 32, x.safe());
        x.change(1, 0, 6);
        due("a hermit doesn't count: one of two", 2 + 4 + 8 + 16 + 32, x.safe());
        x.change(2, 0, 6);
        x.change(3, 0, 6);
        due("nobody two below counts", 1 + 2 + 4 + 8 + 16 + 32, x.safe());
        for (int kind : new int[] {2, 3, 5, 0}) {
            x.change(3, 0, kind);
            due("may want: " + kind, 2 + 4 + 8 + 16 + 32, x.safe());
        }
        x.change(3, 0, 2);
        x.grudge(3, 0);
        x.gift(3, 60);
        due("whatever the gifts", 2 + 4 + 8 + 16 + 32, x.safe());
        due("nobody at all", 0, new TwoBelow().safe());
    }

    private static void rumours() {
        promise = 29;
        TwoBelow x = new TwoBelow();
        due("there are no persons", STATE, x.rumours(1));
        due("BEYOND goes first", BEYOND, x.rumours(0));
        x = empire(2, 0, 2, 4);
        int z = 1;
        int[] grudges = {-1, -1, -1};
        for (int i = 0; i < 12; i++) {
            z = z * 1103515245 + 12345;
            int p = (z >>> 8) % 3;
            z = z * 1103515245 + 12345;
            int q = (z >>> 8) % 3;
            grudges[p] = p == q ? -1 : q;
        }
        int many = 0;
        for (int g : grudges) {
            many += g < 0 ? 0 : 1;
        }
        due("how many have one then", many, x.rumours(12));
        for (int p = 0; p < 3; p++) {
            due("whom " + p, grudges[p], x.of(p, 5));
        }
        due("two draws each", z, x.count(7));
        for (int bad : new int[] {0, -1, 13, MIN, MAX}) {
            due("so many times", BEYOND, x.rumours(bad));
        }
        due("no draw more", z, x.count(7));
        rumoursOfTwo();
    }

    private static void rumoursOfTwo() {
        TwoBelow x = empire(2, 0, 2);
        x.grudge(0, 1);
        x.grudge(1, 0);
        x.gift(0, 5);
        x.gift(1, 5);
        // A z from which the first draw is odd: the one drawn is 1.
        int z = 1;
        while (((z * 1103515245 + 12345) >>> 8) % 2 != 1) {
            z++;
        }
        int next = z * 1103515245 + 12345;
        int other = ((next * 1103515245 + 12345) >>> 8) % 2;
        x.seed(z);
        due("one rumour", other == 1 ? 1 : 2, x.rumours(1));
        due("whom", other == 1 ? -1 : 0, x.of(1, 5));
        due("the gift is 0", 0, x.of(1, 6));
        due("the other's is as it was", 5, x.of(0, 6));
    }

    private static void seed() {
        promise = 30;
        TwoBelow x = new TwoBelow();
        due("z was", 1, x.seed(MIN));
        due("z was", MIN, x.seed(BEYOND));
        due("z was: no finding", BEYOND, x.seed(SIZE));
        due("z is: no finding", SIZE, x.count(7));
        due("so none is counted", 0, x.status(-1));
        due("z was", SIZE, x.seed(MAX));
        due("z is", MAX, x.count(7));
    }

    // ---- promises 31 to 33

    private static void texts() {
        feed();
        wipe();
        textsThatStand();
        textsWithFaults();
    }

    private static void feed() {
        promise = 31;
        TwoBelow x = new TwoBelow();
        due("four bytes", 4, x.feed(0x6c617720, 4));
        due("one byte, the lowest", 5, x.feed(0x7a7a7a31, 1));
        due("it was: law 1", 1, x.text());
        due("so it is", 1, x.law(0, 0));
        due("two", 2, x.feed(0x12346c61, 2));
        due("three", 5, x.feed(0x12772032, 3));
        due("it was: law 2", 1, x.text());
        due("so it is", 2, x.law(0, 0));
        for (int bad : new int[] {0, -1, 5, MIN, MAX}) {
            due("so many bytes", BEYOND, x.feed(0, bad));
        }
        for (int i = 1; i <= 29; i++) {
            due("four more", 4 * i, x.feed(-1, 4));
        }
        due("three more", 119, x.feed(-1, 3));
        due("two are too many", FULL, x.feed(-1, 2));
        due("one more", 120, x.feed(-1, 1));
        due("FULL", FULL, x.feed(-1, 1));
        due("BEYOND goes first", BEYOND, x.feed(-1, 0));
        due("120", 120, x.count(6));
    }

    private static void wipe() {
        promise = 32;
        TwoBelow x = new TwoBelow();
        due("none", 0, x.wipe());
        x.feed(0, 3);
        due("three", 3, x.wipe());
        due("none now", 0, x.count(6));
        x.feed(0x6c617731, 4);
        due("nothing of the old ones is read", 1, x.text());
    }

    private static void textsThatStand() {
        promise = 33;
        TwoBelow x = new TwoBelow();
        due("all sorts", 5, text(x, "rank 0 seats 1;law 1;parts 5;price 999;person in 0"));
        due("seats", 1, x.rankOf(0, 0));
        due("law", 1, x.law(0, 1));
        due("parts", 5, x.law(1, 5));
        due("price", 999, x.law(2, 999));
        due("the tape is empty", 0, x.count(6));
        due("a person with all", 1, text(x, "sly in 7 age 99 house 3 gold 9999 grudge 0"));
        int[] told = {3, 7, 99, 3, 9999, 0, 0};
        for (int what = 0; what < 7; what++) {
            due("told: " + what, told[what], x.of(1, what));
        }
        int[] first = {0, 0, 30, 0, 100, -1, 0};
        for (int what = 0; what < 7; what++) {
            due("as at first: " + what, first[what], x.of(0, what));
        }
        due("all kinds", 5, text(x, "loyal in 1;bought in 2;kin in 3;plotter in 4;hermit in 5"));
        int[] kinds = {0, 3, 1, 2, 4, 5, 6};
        for (int p = 0; p < 7; p++) {
            due("kind of " + p, kinds[p], x.of(p, 0));
        }
        due("no blanks", 2, text(x, "person in6age7grudge1;rank7seats4"));
        due("age", 7, x.of(7, 2));
        due("grudge", 1, x.of(7, 5));
        due("seats", 4, x.rankOf(7, 0));
        due("many blanks", 1, text(x, "   law    0002   "));
        due("zeros ahead", 2, x.law(0, 0));
        due("a row of zeros", 1, text(x, "price 00000000000000000000000000000000007"));
        due("a row of zeros", 7, x.law(2, 0));
        due("item by item", 2, text(x, "rank 1 seats 2;person in 1"));
        due("item by item", 3, text(x, "rank 1 seats 3;rank 1 seats 4;person in 1 grudge 8"));
        due("TURNED and MONTH as they were", 0, x.count(3) + x.count(0));
    }

    private static void textsWithFaults() {
        fault("", 0);
        fault("    ", 4);
        fault("rank", 4);
        fault("rank 0 seats ", 13);
        fault("law 1;", 6);
        fault("law 1;  ", 8);
        fault("law 1;;law 1", 6);
        fault(";", 0);
        fault("law 1 law 1", 6);
        fault("law 1A", 5);
        fault("lawA1", 3);
        fault("LAW 1", 0);
        fault("laws 1", 0);
        fault("lawa 1", 0);
        fault("lawz 1", 0);
        fault("law 1z", 5);
        fault("law`1", 3);
        fault("law{1", 3);
        fault("law 1/", 5);
        fault("law 1:", 5);
        fault("law 1" + (char) 0, 5);
        fault("law 1" + (char) 255, 5);
        fault("la", 0);
        fault("law parts 3", 4);
        fault("parts law 3", 6);
        fault("price rank 1 seats 1", 6);
        fault("law person in 0", 4);
        fault("law 3", 4);
        fault("law 99999999999", 4);
        fault("parts 0", 6);
        fault("parts 6", 6);
        fault("price 1000", 6);
        fault("12345", 0);
        fault("rank 8 seats 1", 5);
        fault("rank 4294967296 seats 1", 5);
        fault("rank 0 seat 1", 7);
        fault("rank 0 seats 5", 13);
        fault("rank 2 seats 1;law 1", 13);
        fault("rank 2 seats 2;rank 2 seats 1", 28);
        fault("person on 0", 7);
        fault("person in 8", 10);
        fault("person in x", 10);
        fault("person in 0 age", 15);
        fault("person in 0 age 100", 16);
        fault("person in 0 house 4", 18);
        fault("person in 0 gold 10000", 17);
        fault("person in 0 gold 3 age 3", 19);
        fault("person in 0 age 3 age 3", 18);
        fault("person in 0 grudge 2", 19);
        fault("person in 0 grudge 1;person in 0 grudge 3", 40);
        fault("person in 0 seats 1", 12);
        fault("person in 2;person in 2", 22);
        fault("law 1;person in 0;rank 0 seats 0", 31);
        fault("law\t1", 3);
        fault("law 1.", 5);
        TwoBelow x = empire(0, 1, 1, 2, 2, 3, 3, 4, 4, 5, 5, 6);
        due("a 13th person", -1 - 12, text(x, "person in 7;kin in 7"));
        due("nothing changes", 11, x.count(1));
        due("the 12th", 1, text(x, "person in 7"));
        due("the WORD of the 13th itself", -1, text(x, "person in 9"));
    }

    /** The text is refused at that place, and it leaves nothing but an empty tape. */
    private static void fault(String text, int place) {
        TwoBelow x = new TwoBelow();
        x.person(0, 2);
        x.person(3, 2);
        int before = print(x);
        due("\"" + text + "\"", -1 - place, text(x, text));
        due("\"" + text + "\" changes nothing", before, print(x));
        due("\"" + text + "\" leaves an empty tape", 0, x.count(6));
        due("\"" + text + "\" leaves LAW", 0, x.law(0, 0));
        due("\"" + text + "\" leaves PARTS", 3, x.law(1, 3));
        due("\"" + text + "\" leaves PRICE", 50, x.law(2, 50));
        due("\"" + text + "\" is no finding", 0, x.status(-1));
    }

    // ---- promises 34 to 40

    private static void spotsAndSheets() {
        hold();
        as();
        sheet();
        write();
        copy();
        load();
        judge();
    }

    private static void hold() {
        promise = 34;
        TwoBelow x = empire(0, 0, 1);
        due("hold", 1, x.hold(0, 1));
        due("hold", 1, x.hold(9, 0));
        due("it holds 1", 1, x.as(0, 0));
        due("it holds 0", 0, x.as(9, 0));
        due("nothing", 1, x.hold(0, -1));
        due("it holds nothing", MISSING, x.as(0, 0));
        for (int bad : new int[] {-1, 10, MIN, MAX}) {
            due("no such spot", BEYOND, x.hold(bad, 0));
        }
        for (int bad : new int[] {-2, 2, MIN, MAX}) {
            due("no such person", BEYOND, x.hold(9, bad));
        }
        due("it still holds 0", 0, x.as(9, 0));
    }

    private static void as() {
        promise = 35;
        TwoBelow x = empire(0, 0, 1);
        x.hold(3, 1);
        int[][] above = {{0}, {0, 1}, {0, 2}, {0, 2, 3}, {0, 1, 4}, {0, 5}, {0, 1, 6}};
        for (int kind = 0; kind < 7; kind++) {
            x.change(1, 0, kind);
            for (int wanted = 0; wanted < 7; wanted++) {
                int answer = KIND;
                for (int a : above[kind]) {
                    answer = a == wanted ? 1 : answer;
                }
                due("kind " + kind + " as " + wanted, answer, x.as(3, wanted));
            }
        }
        due("nothing", MISSING, x.as(2, 0));
        for (int bad : new int[] {-1, 10, MIN, MAX}) {
            due("no such spot", BEYOND, x.as(bad, 0));
        }
        for (int bad : new int[] {-1, 7, MIN, MAX}) {
            due("no such kind", BEYOND, x.as(3, bad));
            due("BEYOND goes first", BEYOND, x.as(2, bad));
        }
    }

    private static void sheet() {
        promise = 36;
        TwoBelow x = new TwoBelow();
        due("8 bits", 40, x.sheet(0, 8, 40));
        due("16 bits", 1, x.sheet(1, 16, 1));
        due("32 bits, empty", 0, x.sheet(3, 32, 0));
        due("an empty one is not missing", 0, x.load(3));
        due("missing", 0, x.sheet(0, 0, 7));
        due("it is missing", MISSING, x.load(0));
        for (int bad : new int[] {-1, 4, MIN, MAX}) {
            due("no such sheet", BEYOND, x.sheet(bad, 8, 1));
            due("no such sheet, below 0", BEYOND, x.sheet(bad, 8, -1));
        }
        for (int bad : new int[] {-8, 1, 7, 24, 64, MIN, MAX}) {
            due("other bits", BEYOND, x.sheet(0, bad, 1));
            due("other bits, below 0", BEYOND, x.sheet(0, bad, -1));
        }
        due("below 0", SIZE, x.sheet(1, 8, -1));
        due("below 0", SIZE, x.sheet(1, 8, MIN));
        due("below 0, bits 0", SIZE, x.sheet(1, 0, -1));
        due("above 40", BEYOND, x.sheet(1, 8, 41));
        due("above 40", BEYOND, x.sheet(1, 8, MAX));
        due("above 40, bits 0", BEYOND, x.sheet(1, 0, 41));
        due("it is as it was", 1, x.copy(1, 0, 1, 0, 1));
        x.person(0, 0);
        x.person(0, 0);
        x.write(1, 0, 1);
        due("1 came", 1, x.load(1));
        x.sheet(1, 16, 1);
        due("all 0 again: 0 is not another person for 0", 0, x.load(1));
    }

    private static void write() {
        promise = 37;
        TwoBelow x = new TwoBelow();
        x.person(0, 0);
        x.person(0, 1);
        due("missing", MISSING, x.write(0, 0, 1));
        due("missing goes ahead of no such number", MISSING, x.write(0, 40, 1));
        int[][] rows = {{8, 255, -1}, {8, 257, 1}, {8, 128, -128}, {16, 65535, -1}, {16, 65537, 1}, {16, 32768, -32768},
            {32, -1, -1}, {32, 1, 1}};
        for (int[] row : rows) {
            x.sheet(0, row[0], 3);
            due("write", 1, x.write(0, 0, row[1]));
            x.grudge(0, 1);
            boolean good = row[2] == -1 || row[2] == 1;
            due(row[1] + " of " + row[0] + " bits, and a 0 behind", good ? 2 : 0, x.load(0));
            due("and so it is told", good ? row[2] : 1, x.of(0, 5));
        }
        due("the last one", 1, x.write(0, 2, 5));
        for (int bad : new int[] {-1, 3, 39, MIN, MAX}) {
            due("no such number", BEYOND, x.write(0, bad, 1));
        }
        for (int bad : new int[] {-1, 4, MIN, MAX}) {
            due("no such sheet", BEYOND, x.write(bad, 0, 1));
        }
        x.sheet(2, 8, 0);
        due("an empty one has no number", BEYOND, x.write(2, 0, 1));
    }

    private static void copy() {
        promise = 38;
        TwoBelow x = empire(0, 0, 0, 0, 0, 1, 1);
        fill(x, 0, 8, 5, 4, 3, 2, 1);
        x.sheet(1, 8, 3);
        x.sheet(2, 16, 5);
        due("three", 3, x.copy(0, 2, 1, 0, 3));
        loaded(x, 1, 3, 2, 1);
        due("none", 0, x.copy(0, 5, 1, 3, 0));
        due("none, beyond the first", BEYOND, x.copy(0, 6, 1, 3, 0));
        due("none, beyond the other", BEYOND, x.copy(0, 5, 1, 4, 0));
        due("one too many of the first", BEYOND, x.copy(0, 3, 1, 0, 3));
        due("one too many of the other", BEYOND, x.copy(0, 0, 1, 1, 3));
        due("from below 0", BEYOND, x.copy(0, -1, 1, 0, 1));
        due("to below 0", BEYOND, x.copy(0, 0, 1, -1, 1));
        due("n below 0", BEYOND, x.copy(0, 1, 1, 1, -1));
        due("no overflow", BEYOND, x.copy(0, MAX, 1, 0, MAX));
        due("no overflow", BEYOND, x.copy(0, 1, 1, 1, MAX));
        due("no underflow", BEYOND, x.copy(0, MIN, 1, MIN, MIN));
        due("other bits", KIND, x.copy(0, 0, 2, 0, 1));
        due("KIND goes ahead of BEYOND", KIND, x.copy(0, 0, 2, 0, 99));
        due("missing", MISSING, x.copy(0, 0, 3, 0, 1));
        due("missing", MISSING, x.copy(3, 0, 0, 0, 1));
        for (int bad : new int[] {-1, 4, MIN, MAX}) {
            due("no such sheet goes ahead of MISSING", BEYOND, x.copy(bad, 0, 3, 0, 1));
            due("no such other goes ahead of MISSING", BEYOND, x.copy(3, 0, bad, 0, 1));
        }
        copyOntoItself();
    }

    private static void copyOntoItself() {
        TwoBelow x = empire(0, 0, 0, 0, 0, 1, 1);
        fill(x, 0, 32, 4, 5, 1, 0, 2);
        due("onto itself, behind", 3, x.copy(0, 0, 0, 1, 3));
        // 4 4 5 1 2
        loaded(x, 0, 4, 4, 5, 1, 2);
        fill(x, 0, 32, 0, 3, 4, 5, 1);
        due("onto itself, ahead", 4, x.copy(0, 1, 0, 0, 4));
        // 3 4 5 1 1
        loaded(x, 0, 3, 4, 5, 1, 1);
    }

    private static void fill(TwoBelow x, int s, int bits, int... numbers) {
        x.sheet(s, bits, numbers.length);
        for (int i = 0; i < numbers.length; i++) {
            x.write(s, i, numbers[i]);
        }
    }

    private static void loaded(TwoBelow x, int s, int... grudges) {
        due("all came", grudges.length, x.load(s));
        for (int p = 0; p < grudges.length; p++) {
            due("grudge of " + p, grudges[p], x.of(p, 5));
        }
    }

    private static void load() {
        promise = 39;
        TwoBelow x = empire(2, 0, 1, 2);
        x.grudge(0, 1);
        x.gift(0, 10);
        fill(x, 0, 8, 1, -1, 0);
        due("all three", 3, x.load(0));
        due("the gift is 0", 0, x.of(0, 6));
        due("grudge of 0", 1, x.of(0, 5));
        due("grudge of 1", -1, x.of(1, 5));
        due("grudge of 2", 0, x.of(2, 5));
        fill(x, 0, 16, 2, 0, 1, 0, 0);
        due("no person for the fourth", 3, x.load(0));
        fill(x, 0, 32, -1, 1, -1);
        due("1 is not another one for 1", 1, x.load(0));
        due("grudge of 0", -1, x.of(0, 5));
        due("grudge of 1 is as it was", 0, x.of(1, 5));
        due("grudge of 2 is as it was", 1, x.of(2, 5));
        fill(x, 0, 32, 1, 3, -1);
        due("no such person", 1, x.load(0));
        fill(x, 0, 32, 1, -2, -1);
        due("below -1", 1, x.load(0));
        fill(x, 0, 32, MAX);
        due("far beyond", 0, x.load(0));
        due("none came, none is a finding", 0, x.status(-1));
        due("missing", MISSING, x.load(1));
        for (int bad : new int[] {-1, 4, MIN, MAX}) {
            due("no such sheet", BEYOND, x.load(bad));
        }
    }

    private static void judge() {
        promise = 40;
        TwoBelow x = empire(0, 0, 2, 2, 2);
        x.seats(1, 3);
        x.grudge(1, 0);
        fill(x, 0, 8, 0, 14, 14);
        due("all are", 0, x.judge(0));
        fill(x, 0, 8, 1, 14, 14);
        due("the first isn't", 1, x.judge(0));
        fill(x, 0, 8, 0, 14, 15);
        due("the last isn't", 3, x.judge(0));
        fill(x, 0, 8);
        due("an empty one", 0, x.judge(0));
        due("nothing changes", 0, x.count(0));
        due("missing", MISSING, x.judge(1));
        for (int bad : new int[] {-1, 4, MIN, MAX}) {
            due("no such sheet", BEYOND, x.judge(bad));
        }
        late(x, 990);
        x.sheet(0, 8, 10);
        due("MONTH would be 1000", STATE, x.judge(0));
        x.sheet(0, 8, 9);
        due("MONTH would be 999", 1, x.judge(0));
        late(x, 999);
        x.sheet(0, 8, 0);
        due("no month is needed", 0, x.judge(0));
        TwoBelow y = empire(0, 1, 1, 1, 1, 2, 2, 2, 0);
        y.seats(0, 1);
        fill(y, 0, 8, 128);
        due("8 bits tell 128 with their sign", 1, y.judge(0));
        fill(y, 0, 16, 128);
        due("16 bits hold it", 0, y.judge(0));
    }

    // ---- promises 41 to 45

    private static void images() {
        image();
        back();
        tear();
        count();
        status();
    }

    private static void image() {
        promise = 41;
        TwoBelow x = empire(2, 0, 2, 4);
        x.grudge(1, 0);
        x.gift(1, 10);
        x.seed(77);
        x.hold(4, 2);
        x.law(0, 1);
        x.law(1, 2);
        x.law(2, 3);
        x.months(2);
        int before = print(x);
        due("kept", 1, x.image());
        due("kept anew", 1, x.image());
        due("nothing changes", before, print(x));
        spoil(x);
        due("back in month 2", 2, x.back());
        due("all is as it was", before, print(x));
        due("the spot", 2, x.as(4, 0));
        due("another spot", MISSING, x.as(5, 0));
        due("LAW", 1, x.law(0, 0));
        due("PARTS", 2, x.law(1, 1));
        due("PRICE", 3, x.law(2, 0));
    }

    private static void spoil(TwoBelow x) {
        x.law(0, 2);
        x.law(1, 5);
        x.law(2, 500);
        x.months(13);
        x.person(3, 6);
        x.hold(4, -1);
        x.hold(5, 0);
        x.rumours(5);
        x.change(0, 0, 1);
        x.change(0, 2, 1);
        x.change(0, 3, 1);
        x.change(0, 4, 1);
        x.put(2, -1);
        x.seats(7, 0);
    }

    private static void back() {
        promise = 42;
        TwoBelow x = empire(0, 0);
        due("nothing is kept", NONE, x.back());
        x.image();
        x.months(3);
        x.feed(0x6c617731, 4);
        x.sheet(0, 8, 2);
        due("MONTH", 0, x.back());
        due("the tape is not taken back", 4, x.count(6));
        due("nor are the sheets", 2, x.copy(0, 0, 0, 0, 2));
        due("nor are the findings", 1, x.status(3));
        x.months(2);
        due("what was kept stays", 0, x.back());
        x.months(5);
        x.image();
        x.months(1);
        due("the latest", 5, x.back());
        x.months(7);
        x.change(0, 4, 3);
        due("changes do not reach what is kept", 5, x.back());
        due("the gold, too", 140, x.of(0, 4));
        due("the tape still has its text", 1, x.text());
    }

    private static void tear() {
        promise = 43;
        TwoBelow x = new TwoBelow();
        due("nothing was", 0, x.tear());
        x.image();
        x.image();
        due("something was", 1, x.tear());
        due("nothing is", 0, x.tear());
        due("nothing is kept", NONE, x.back());
        x.months(1);
        x.image();
        due("kept anew", 1, x.back());
    }

    private static void count() {
        promise = 44;
        TwoBelow x = empire(0, 0, 2, 2, 4);
        x.seats(1, 0);
        x.seats(3, 0);
        x.grudge(1, 0);
        x.grudge(2, 1);
        x.put(3, -1);
        x.months(4);
        x.feed(0, 3);
        x.seed(-5);
        int[] now = {4, 4, 2, 1, 400 + 2 * 4 * 6, 2, 3, -5};
        for (int what = 0; what < 8; what++) {
            due("count(" + what + ")", now[what], x.count(what));
        }
        for (int bad : new int[] {-1, 8, MIN, MAX}) {
            due("another what", BEYOND, x.count(bad));
        }
    }

    private static void status() {
        promise = 45;
        TwoBelow x = new TwoBelow();
        x.seats(9, 9);
        x.of(0, 0);
        x.sheet(0, 8, 41);
        for (int i = 0; i < 31; i++) {
            x.feed(0, 4);
        }
        x.person(0, 0);
        x.hold(0, 0);
        x.as(0, 1);
        x.as(0, 2);
        x.heir(0);
        x.heir(1);
        x.heir(2);
        x.put(0, 1);
        x.write(0, 0, 0);
        x.write(1, 0, 0);
        x.sheet(0, 8, -1);
        int[] now = {3, 1, 2, 3, 1, 2, 1};
        for (int which = 0; which < 7; which++) {
            due("status(" + which + ")", now[which], x.status(which));
        }
        due("all", 13, x.status(-1));
        due("another one", BEYOND, x.status(7));
        due("counted from then on", 14, x.status(-1));
        due("counted from then on", 4, x.status(0));
        for (int bad : new int[] {-2, 8, MIN, MAX}) {
            due("another one", BEYOND, x.status(bad));
        }
        due("counted", 8, x.status(0));
        x.image();
        x.heir(7);
        x.back();
        due("back() takes none back", 9, x.status(0));
        due("asking is no finding", 19, x.status(-1));
    }
}
