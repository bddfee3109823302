/**
 * Dismissed by two below: an empire of ranks in which each may turn out those two ranks above him,
 * by a third of a like mind. The document's promises say what each call answers.
 */
public final class TwoBelow {
    private static final int BEYOND = -1000001;
    private static final int FULL = -1000002;
    private static final int KIND = -1000003;
    private static final int NONE = -1000004;
    private static final int STATE = -1000005;
    private static final int MISSING = -1000006;
    private static final int SIZE = -1000007;
    private static final int FINDINGS = 7;

    private static final int RANKS = 8;
    private static final int OUT = -1;
    private static final int NOBODY = -1;
    private static final int MOST_SEATS = 4;
    private static final int MOST_PERSONS = 12;
    private static final int MOST_AGE = 99;
    private static final int MOST_HOUSE = 3;
    private static final int MOST_GOLD = 9999;
    private static final int LAST_MONTH = 999;

    private static final int PERSON = 0;
    private static final int LOYAL = 1;
    private static final int BOUGHT = 2;
    private static final int SLY = 3;
    private static final int KIN = 4;
    private static final int PLOTTER = 5;
    private static final int HERMIT = 6;
    private static final int KINDS = 7;
    /** For each kind the one that it is under. */
    private static final int[] UNDER = {-1, PERSON, PERSON, BOUGHT, LOYAL, PERSON, LOYAL};

    private static final int LAW = 0;
    private static final int PARTS = 1;
    private static final int PRICE = 2;
    private static final int LAWS = 3;
    /** What LAW, PARTS and PRICE may be, and what they are at first. */
    private static final int[] LEAST_OF_LAW = {0, 1, 0};
    private static final int[] MOST_OF_LAW = {2, 5, 999};
    private static final int[] FIRST_OF_LAW = {0, 3, 50};
    private static final int ELDEST = 0;
    private static final int RICHEST = 1;

    private static final int LONGEST_AHEAD = 120;
    private static final int LONGEST_GO = 60;
    private static final int LONGEST_GIFT = 24;
    private static final int LONGEST_PLOT = 12;
    private static final int MOST_LEAST = 999;
    private static final int MOST_IN_PLOT = 10;
    private static final int MOST_RUMOURS = 12;

    private static final int SPOTS = 10;
    private static final int SHEETS = 4;
    private static final int MOST_NUMBERS = 40;
    private static final int MOST_BYTES = 120;

    private final Empire now = new Empire();
    private final Empire kept = new Empire();
    private boolean isKept;
    /** Where what might be is tried out, so that no call has to make an empire. */
    private final Empire trial = new Empire();
    private final Tape tape = new Tape();
    private final Sheet[] sheets = new Sheet[SHEETS];
    private final int[] findings = new int[FINDINGS];

    public TwoBelow() {
        for (int s = 0; s < SHEETS; s++) {
            sheets[s] = new Sheet();
        }
    }

    // ---- ranks, persons

    public int seats(int rank, int v) {
        if (!isRank(rank) || !isWithin(v, 0, MOST_SEATS)) {
            return found(BEYOND);
        }
        if (now.sizeOf(rank) > v) {
            return found(STATE);
        }
        int was = now.seats[rank];
        now.seats[rank] = v;
        return was;
    }

    public int rankOf(int rank, int what) {
        if (!isRank(rank)) {
            return found(BEYOND);
        }
        switch (what) {
            case 0:
                return now.seats[rank];
            case 1:
                return now.sizeOf(rank);
            case 2:
                return now.in[rank];
            case 3:
                return Integer.bitCount(now.in[rank] & now.counting());
            case 4:
                return now.goldOf(now.in[rank]);
            default:
                return found(BEYOND);
        }
    }

    public int law(int what, int v) {
        if (!isWithin(what, 0, LAWS - 1) || !isWithin(v, LEAST_OF_LAW[what], MOST_OF_LAW[what])) {
            return found(BEYOND);
        }
        int was = now.laws[what];
        now.laws[what] = v;
        return was;
    }

    public int person(int kind, int rank) {
        if (!isKind(kind) || !isRank(rank)) {
            return found(BEYOND);
        }
        if (!now.hasFree(rank)) {
            return found(STATE);
        }
        if (now.persons >= MOST_PERSONS) {
            return found(FULL);
        }
        return now.addOne(kind, rank);
    }

    public int of(int person, int what) {
        if (!now.has(person)) {
            return found(BEYOND);
        }
        switch (what) {
            case 0:
                return now.kind[person];
            case 1:
                return now.rank[person];
            case 2:
                return now.age[person];
            case 3:
                return now.house[person];
            case 4:
                return now.gold[person];
            case 5:
                return now.grudge[person];
            case 6:
                return now.gift[person];
            default:
                return found(BEYOND);
        }
    }

    public int change(int person, int what, int v) {
        if (!now.has(person)) {
            return found(BEYOND);
        }
        switch (what) {
            case 0:
                return replaced(now.kind, person, v, KINDS - 1);
            case 2:
                return replaced(now.age, person, v, MOST_AGE);
            case 3:
                return replaced(now.house, person, v, MOST_HOUSE);
            case 4:
                return replaced(now.gold, person, v, MOST_GOLD);
            default:
                return found(BEYOND);
        }
    }

    private int replaced(int[] row, int person, int v, int most) {
        if (!isWithin(v, 0, most)) {
            return found(BEYOND);
        }
        int was = row[person];
        row[person] = v;
        return was;
    }

    public int grudge(int person, int other) {
        if (!now.has(person) || !now.hasOrNobody(other) || person == other) {
            return found(BEYOND);
        }
        int was = now.grudge[person];
        now.resent(person, other);
        return was;
    }

    public int put(int person, int rank) {
        if (!now.has(person) || !isWithin(rank, OUT, RANKS - 1)) {
            return found(BEYOND);
        }
        int was = now.rank[person];
        boolean comesIn = rank != OUT;
        boolean isOut = was == OUT;
        if (comesIn != isOut || comesIn && !now.hasFree(rank)) {
            return found(STATE);
        }
        now.moveTo(person, rank);
        return was;
    }

    public int gift(int to, int v) {
        if (!now.has(to) || !isWithin(v, 1, MOST_GOLD)) {
            return found(BEYOND);
        }
        if (!now.canTake(to, v)) {
            return found(STATE);
        }
        now.take(to, v);
        return now.gift[to];
    }

    public int exchange(int one, int other) {
        if (!now.has(one) || !now.has(other) || one == other) {
            return found(BEYOND);
        }
        int rankOfOne = now.rank[one];
        int rankOfOther = now.rank[other];
        if (rankOfOne == OUT || rankOfOther == OUT) {
            return found(STATE);
        }
        now.moveTo(one, rankOfOther);
        now.moveTo(other, rankOfOne);
        return 1;
    }

    // ---- who trembles

    public int wants(int one, int other) {
        if (!now.has(one) || !now.has(other) || one == other) {
            return found(BEYOND);
        }
        return now.isWanting(one, other) ? 1 : 0;
    }

    public int against(int person) {
        if (!now.has(person)) {
            return found(BEYOND);
        }
        if (now.rank[person] == OUT) {
            return found(STATE);
        }
        return now.wanting(now.judgesOf(person, now.counting()), person);
    }

    public int lacks(int person) {
        if (!now.has(person)) {
            return found(BEYOND);
        }
        if (now.rank[person] == OUT) {
            return found(STATE);
        }
        int judges = now.judgesOf(person, now.counting());
        int all = Integer.bitCount(judges);
        int wanting = Integer.bitCount(now.wanting(judges, person));
        for (int more = 0; wanting + more <= all; more++) {
            if (now.isEnough(wanting + more, all)) {
                return more;
            }
        }
        return found(NONE);
    }

    public int tremble() {
        return now.falling();
    }

    public int heir(int rank) {
        if (!isWithin(rank, 0, RANKS - 2)) {
            return found(BEYOND);
        }
        int first = now.firstByLaw(now.in[rank + 1]);
        return first == NOBODY ? found(NONE) : first;
    }

    // ---- months

    public int months(int n) {
        if (!isWithin(n, 1, LONGEST_GO)) {
            return found(BEYOND);
        }
        return isTooLate(n) ? found(STATE) : now.pass(n);
    }

    public int ahead(int n, int what) {
        if (!isWithin(n, 0, LONGEST_AHEAD) || what < 0 || what >= 4 && !now.has(what - 4)) {
            return found(BEYOND);
        }
        if (isTooLate(n)) {
            return found(STATE);
        }
        trial.becomeLike(now);
        int turned = trial.pass(n);
        switch (what) {
            case 0:
                return trial.thoseOut();
            case 1:
                return turned;
            case 2:
                return trial.goldOf(trial.all());
            case 3:
                return trial.in[0];
            default:
                return trial.rank[what - 4];
        }
    }

    public int sits(int person) {
        if (!now.has(person)) {
            return found(BEYOND);
        }
        if (now.rank[person] == OUT || isTooLate(LONGEST_AHEAD)) {
            return found(STATE);
        }
        trial.becomeLike(now);
        for (int behind = 1; behind <= LONGEST_AHEAD; behind++) {
            trial.goMonth();
            if (trial.rank[person] == OUT) {
                return behind;
            }
        }
        return found(NONE);
    }

    public int rises(int person, int n) {
        if (!now.has(person) || !isWithin(n, 0, LONGEST_AHEAD)) {
            return found(BEYOND);
        }
        if (isTooLate(n)) {
            return found(STATE);
        }
        trial.becomeLike(now);
        int least = trial.standingOf(person);
        for (int behind = 1; behind <= n; behind++) {
            trial.goMonth();
            least = Math.min(least, trial.standingOf(person));
        }
        return least == RANKS ? found(NONE) : least;
    }

    public int worth(int person, int rank, int n) {
        if (!now.has(person) || !isRank(rank) || !isWithin(n, 1, LONGEST_AHEAD)) {
            return found(BEYOND);
        }
        if (isTooLate(n)) {
            return found(STATE);
        }
        trial.becomeLike(now);
        trial.moveTo(person, rank);
        trial.pass(n);
        // One who is OUT gets no coins: his GOLD would stay what it is now.
        return trial.gold[person] - now.gold[person];
    }

    // ---- gifts

    public int least(int person, int n) {
        if (!now.has(person) || !isWithin(n, 1, LONGEST_GIFT)) {
            return found(BEYOND);
        }
        int giver = now.grudge[person];
        if (!now.has(giver) || now.rank[giver] == OUT || isTooLate(n)) {
            return found(STATE);
        }
        for (int v = 0; v <= MOST_LEAST && now.canTake(person, v); v++) {
            trial.becomeLike(now);
            trial.take(person, v);
            if (trial.keeps(giver, n)) {
                return v;
            }
        }
        return found(NONE);
    }

    public int best(int person, int n) {
        if (!now.has(person) || !isWithin(n, 1, LONGEST_GO)) {
            return found(BEYOND);
        }
        if (isTooLate(n)) {
            return found(STATE);
        }
        int best = 0;
        int highest = RANKS + 1;
        for (int law = LEAST_OF_LAW[LAW]; law <= MOST_OF_LAW[LAW]; law++) {
            trial.becomeLike(now);
            trial.laws[LAW] = law;
            trial.pass(n);
            if (trial.standingOf(person) < highest) {
                best = law;
                highest = trial.standingOf(person);
            }
        }
        return best;
    }

    public int partsFor(int n) {
        if (!isWithin(n, 1, LONGEST_GO)) {
            return found(BEYOND);
        }
        if (isTooLate(n)) {
            return found(STATE);
        }
        int best = 1;
        int fewest = MOST_PERSONS + 1;
        for (int parts = LEAST_OF_LAW[PARTS]; parts <= MOST_OF_LAW[PARTS]; parts++) {
            trial.becomeLike(now);
            trial.laws[PARTS] = parts;
            int turned = trial.pass(n);
            if (turned < fewest) {
                best = parts;
                fewest = turned;
            }
        }
        return best;
    }

    public int kindFor(int person, int n) {
        if (!now.has(person) || !isWithin(n, 1, LONGEST_GO)) {
            return found(BEYOND);
        }
        if (isTooLate(n)) {
            return found(STATE);
        }
        int best = PERSON;
        int most = -1;
        for (int kind = 0; kind < KINDS; kind++) {
            trial.becomeLike(now);
            trial.kind[person] = kind;
            trial.pass(n);
            if (trial.gold[person] > most) {
                best = kind;
                most = trial.gold[person];
            }
        }
        return best;
    }

    // ---- plots

    public int plot(int person, int n) {
        if (!now.has(person) || !isWithin(n, 1, LONGEST_PLOT)) {
            return found(BEYOND);
        }
        if (now.rank[person] == OUT || isTooLate(n)) {
            return found(STATE);
        }
        int able = now.ableToPlot() & ~(1 << person);
        int most = Integer.bitCount(able);
        if (most > MOST_IN_PLOT) {
            return found(SIZE);
        }
        for (int size = 0; size <= most; size++) {
            int set = leastPlot(person, n, able, size);
            if (set >= 0) {
                return set;
            }
        }
        return found(NONE);
    }

    private int leastPlot(int person, int n, int able, int size) {
        for (int set = 0; set <= able; set++) {
            if ((set & ~able) == 0 && Integer.bitCount(set) == size) {
                trial.becomeLike(now);
                trial.resentAll(set, person);
                if (!trial.keeps(person, n)) {
                    return set;
                }
            }
        }
        return -1;
    }

    public int undo(int person, int n) {
        if (!now.has(person) || !isWithin(n, 1, LONGEST_GO)) {
            return found(BEYOND);
        }
        if (now.rank[person] == OUT || isTooLate(n)) {
            return found(STATE);
        }
        int set = 0;
        for (int p = 0; p < now.persons; p++) {
            if (p != person && now.rank[p] != OUT) {
                trial.becomeLike(now);
                trial.moveTo(p, OUT);
                if (trial.keeps(person, n)) {
                    set |= 1 << p;
                }
            }
        }
        return set;
    }

    public int safe() {
        int counting = now.counting();
        int set = 0;
        for (int p = 0; p < now.persons; p++) {
            int judges = now.judgesOf(p, counting);
            if (now.rank[p] != OUT && !now.isEnough(now.howManyMayWant(judges, p), Integer.bitCount(judges))) {
                set |= 1 << p;
            }
        }
        return set;
    }

    public int rumours(int n) {
        if (!isWithin(n, 1, MOST_RUMOURS)) {
            return found(BEYOND);
        }
        if (now.persons == 0) {
            return found(STATE);
        }
        for (int i = 0; i < n; i++) {
            int person = now.drawPerson();
            int other = now.drawPerson();
            now.resent(person, other == person ? NOBODY : other);
        }
        return now.withGrudge();
    }

    public int seed(int v) {
        int was = now.z;
        now.z = v;
        return was;
    }

    // ---- texts

    public int feed(int bytes, int n) {
        if (!isWithin(n, 1, 4)) {
            return found(BEYOND);
        }
        if (tape.length + n > MOST_BYTES) {
            return found(FULL);
        }
        for (int i = n - 1; i >= 0; i--) {
            tape.bytes[tape.length] = bytes >>> (8 * i) & 255;
            tape.length++;
        }
        return tape.length;
    }

    public int wipe() {
        int had = tape.length;
        tape.length = 0;
        return had;
    }

    public int text() {
        // Items before a FAULT must leave no trace: they are told to the trial first.
        trial.becomeLike(now);
        int items = tape.tell(trial);
        if (items >= 0) {
            now.becomeLike(trial);
        }
        tape.length = 0;
        return items;
    }

    // ---- spots, sheets

    public int hold(int spot, int person) {
        if (!isWithin(spot, 0, SPOTS - 1) || !now.hasOrNobody(person)) {
            return found(BEYOND);
        }
        now.spots[spot] = person;
        return 1;
    }

    public int as(int spot, int kind) {
        if (!isWithin(spot, 0, SPOTS - 1) || !isKind(kind)) {
            return found(BEYOND);
        }
        int person = now.spots[spot];
        if (!now.has(person)) {
            return found(MISSING);
        }
        return isOfKind(now.kind[person], kind) ? person : found(KIND);
    }

    public int sheet(int s, int bits, int n) {
        Sheet sheet = sheetAt(s);
        if (sheet == null || bits != 0 && bits != 8 && bits != 16 && bits != 32) {
            return found(BEYOND);
        }
        if (n < 0) {
            return found(SIZE);
        }
        if (n > MOST_NUMBERS) {
            return found(BEYOND);
        }
        sheet.begin(bits, n);
        return sheet.size;
    }

    public int write(int s, int i, int v) {
        Sheet sheet = sheetAt(s);
        if (sheet == null) {
            return found(BEYOND);
        }
        if (sheet.isMissing()) {
            return found(MISSING);
        }
        if (!isWithin(i, 0, sheet.size - 1)) {
            return found(BEYOND);
        }
        sheet.numbers[i] = sheet.cut(v);
        return 1;
    }

    public int copy(int s, int from, int t, int to, int n) {
        Sheet source = sheetAt(s);
        Sheet target = sheetAt(t);
        if (source == null || target == null) {
            return found(BEYOND);
        }
        if (source.isMissing() || target.isMissing()) {
            return found(MISSING);
        }
        if (source.bits != target.bits) {
            return found(KIND);
        }
        if (!source.hasRow(from, n) || !target.hasRow(to, n)) {
            return found(BEYOND);
        }
        System.arraycopy(source.numbers, from, target.numbers, to, n);
        return n;
    }

    public int load(int s) {
        Sheet sheet = sheetAt(s);
        if (sheet == null) {
            return found(BEYOND);
        }
        if (sheet.isMissing()) {
            return found(MISSING);
        }
        int came = 0;
        while (came < sheet.size && came < now.persons) {
            int other = sheet.numbers[came];
            if (!now.hasOrNobody(other) || other == came) {
                break;
            }
            now.resent(came, other);
            came++;
        }
        return came;
    }

    public int judge(int s) {
        Sheet sheet = sheetAt(s);
        if (sheet == null) {
            return found(BEYOND);
        }
        if (sheet.isMissing()) {
            return found(MISSING);
        }
        if (isTooLate(sheet.size)) {
            return found(STATE);
        }
        trial.becomeLike(now);
        for (int i = 0; i < sheet.size; i++) {
            trial.goMonth();
            if (sheet.numbers[i] != trial.in[0]) {
                return 1 + i;
            }
        }
        return 0;
    }

    // ---- images

    public int image() {
        kept.becomeLike(now);
        isKept = true;
        return 1;
    }

    public int back() {
        if (!isKept) {
            return found(NONE);
        }
        now.becomeLike(kept);
        return now.month;
    }

    public int tear() {
        int was = isKept ? 1 : 0;
        isKept = false;
        return was;
    }

    public int count(int what) {
        switch (what) {
            case 0:
                return now.month;
            case 1:
                return now.persons;
            case 2:
                return Integer.bitCount(now.thoseOut());
            case 3:
                return now.turned;
            case 4:
                return now.goldOf(now.all());
            case 5:
                return now.withGrudge();
            case 6:
                return tape.length;
            case 7:
                return now.z;
            default:
                return found(BEYOND);
        }
    }

    public int status(int which) {
        if (!isWithin(which, -1, FINDINGS - 1)) {
            return found(BEYOND);
        }
        if (which >= 0) {
            return findings[which];
        }
        int all = 0;
        for (int i = 0; i < FINDINGS; i++) {
            all += findings[i];
        }
        return all;
    }

    // ---- what the calls share

    private int found(int finding) {
        int which = BEYOND - finding;
        if (isWithin(which, 0, FINDINGS - 1)) {
            findings[which]++;
        }
        return finding;
    }

    private boolean isTooLate(int n) {
        return now.month + n > LAST_MONTH;
    }

    private Sheet sheetAt(int s) {
        return isWithin(s, 0, SHEETS - 1) ? sheets[s] : null;
    }

    private static boolean isWithin(int v, int least, int most) {
        return v >= least && v <= most;
    }

    private static boolean isRank(int rank) {
        return isWithin(rank, 0, RANKS - 1);
    }

    private static boolean isKind(int kind) {
        return isWithin(kind, 0, KINDS - 1);
    }

    private static boolean isOfKind(int kind, int wanted) {
        int up = kind;
        for (int step = 0; step < KINDS && isKind(up); step++) {
            if (up == wanted) {
                return true;
            }
            up = UNDER[up];
        }
        return false;
    }

    /** All that an image keeps. One empire takes over another's rows, so that none is made for a trial. */
    private static final class Empire {
        final int[] kind = new int[MOST_PERSONS];
        final int[] rank = new int[MOST_PERSONS];
        final int[] age = new int[MOST_PERSONS];
        final int[] house = new int[MOST_PERSONS];
        final int[] gold = new int[MOST_PERSONS];
        final int[] grudge = new int[MOST_PERSONS];
        final int[] gift = new int[MOST_PERSONS];
        final int[] seats = new int[RANKS];
        /** Who is in each rank, as a set: moveTo() keeps it in step with rank. */
        final int[] in = new int[RANKS];
        final int[] laws = new int[LAWS];
        final int[] spots = new int[SPOTS];
        int persons;
        int month;
        int turned;
        int z = 1;

        Empire() {
            for (int r = 0; r < RANKS; r++) {
                seats[r] = 3;
            }
            for (int what = 0; what < LAWS; what++) {
                laws[what] = FIRST_OF_LAW[what];
            }
            for (int s = 0; s < SPOTS; s++) {
                spots[s] = NOBODY;
            }
        }

        void becomeLike(Empire other) {
            System.arraycopy(other.kind, 0, kind, 0, MOST_PERSONS);
            System.arraycopy(other.rank, 0, rank, 0, MOST_PERSONS);
            System.arraycopy(other.age, 0, age, 0, MOST_PERSONS);
            System.arraycopy(other.house, 0, house, 0, MOST_PERSONS);
            System.arraycopy(other.gold, 0, gold, 0, MOST_PERSONS);
            System.arraycopy(other.grudge, 0, grudge, 0, MOST_PERSONS);
            System.arraycopy(other.gift, 0, gift, 0, MOST_PERSONS);
            System.arraycopy(other.seats, 0, seats, 0, RANKS);
            System.arraycopy(other.in, 0, in, 0, RANKS);
            System.arraycopy(other.laws, 0, laws, 0, LAWS);
            System.arraycopy(other.spots, 0, spots, 0, SPOTS);
            persons = other.persons;
            month = other.month;
            turned = other.turned;
            z = other.z;
        }

        boolean has(int p) {
            return p >= 0 && p < persons;
        }

        boolean hasOrNobody(int p) {
            return p == NOBODY || has(p);
        }

        int all() {
            return (1 << persons) - 1;
        }

        /** The rank of a person, told so that one who is OUT comes behind all others. */
        int standingOf(int p) {
            return rank[p] == OUT ? RANKS : rank[p];
        }

        int sizeOf(int r) {
            return Integer.bitCount(in[r]);
        }

        boolean hasFree(int r) {
            return sizeOf(r) < seats[r];
        }

        /** A new person as at first; the caller has seen to it that there is room. */
        int addOne(int kindOfOne, int r) {
            int p = persons;
            persons++;
            kind[p] = kindOfOne;
            rank[p] = OUT;
            age[p] = 30;
            house[p] = 0;
            gold[p] = 100;
            grudge[p] = NOBODY;
            gift[p] = 0;
            moveTo(p, r);
            return p;
        }

        void moveTo(int p, int r) {
            int was = rank[p];
            if (isRank(was)) {
                in[was] &= ~(1 << p);
            }
            if (isRank(r)) {
                in[r] |= 1 << p;
            }
            rank[p] = r;
        }

        void resent(int p, int other) {
            grudge[p] = other;
            gift[p] = 0;
        }

        void resentAll(int set, int other) {
            for (int p = 0; p < persons; p++) {
                if ((set >> p & 1) != 0) {
                    resent(p, other);
                }
            }
        }

        boolean canTake(int to, int v) {
            int giver = grudge[to];
            return has(giver) && gold[giver] >= v && gold[to] + v <= MOST_GOLD;
        }

        void take(int to, int v) {
            int giver = grudge[to];
            if (has(giver)) {
                gold[giver] -= v;
                gold[to] += v;
                gift[to] += v;
            }
        }

        int thoseOut() {
            int set = 0;
            for (int p = 0; p < persons; p++) {
                if (rank[p] == OUT) {
                    set |= 1 << p;
                }
            }
            return set;
        }

        int goldOf(int set) {
            int sum = 0;
            for (int p = 0; p < persons; p++) {
                if ((set >> p & 1) != 0) {
                    sum += gold[p];
                }
            }
            return sum;
        }

        int withGrudge() {
            int many = 0;
            for (int p = 0; p < persons; p++) {
                if (grudge[p] != NOBODY) {
                    many++;
                }
            }
            return many;
        }

        // ---- who wants whom turned out

        boolean isWanting(int p, int q) {
            switch (kind[p]) {
                case PERSON:
                    return grudge[p] == q;
                case BOUGHT:
                    return grudge[p] == q && gift[p] < laws[PRICE];
                case SLY:
                    return grudge[p] == q && gift[p] < laws[PRICE] || mostBy(gold, besides(q)) == q;
                case KIN:
                    return grudge[p] == q && house[p] != house[q];
                case PLOTTER:
                    return grudge[p] == q || isElderTwoAbove(q, p);
                default:
                    return false;
            }
        }

        /** Those in a person's rank, he too; nobody, if he is OUT. */
        int besides(int q) {
            return rank[q] == OUT ? 0 : in[rank[q]];
        }

        boolean isElderTwoAbove(int q, int p) {
            return rank[q] != OUT && rank[q] == rank[p] - 2 && age[q] > age[p];
        }

        /** Of a set the one with most in a row, of several the least number. */
        int mostBy(int[] row, int set) {
            int first = NOBODY;
            for (int p = 0; p < persons; p++) {
                if ((set >> p & 1) != 0 && (first == NOBODY || row[p] > row[first])) {
                    first = p;
                }
            }
            return first;
        }

        int leastOf(int set) {
            for (int p = 0; p < persons; p++) {
                if ((set >> p & 1) != 0) {
                    return p;
                }
            }
            return NOBODY;
        }

        /** Those who count among the persons of their rank. */
        int counting() {
            int set = 0;
            for (int p = 0; p < persons; p++) {
                if (kind[p] != HERMIT) {
                    set |= 1 << p;
                }
            }
            return set;
        }

        /** Those who count two ranks below a person; nobody, if he is OUT or there is no such rank. */
        int judgesOf(int q, int counting) {
            int r = rank[q];
            return r != OUT && isRank(r + 2) ? in[r + 2] & counting : 0;
        }

        int wanting(int set, int q) {
            int those = 0;
            for (int p = 0; p < persons; p++) {
                if ((set >> p & 1) != 0 && isWanting(p, q)) {
                    those |= 1 << p;
                }
            }
            return those;
        }

        /** How many of a set would want a person turned out, had they the grudge for it. */
        int howManyMayWant(int set, int q) {
            int many = 0;
            for (int p = 0; p < persons; p++) {
                boolean may = !isOfKind(kind[p], LOYAL) || kind[p] == KIN && house[p] != house[q];
                if ((set >> p & 1) != 0 && may) {
                    many++;
                }
            }
            return many;
        }

        int ableToPlot() {
            int those = 0;
            for (int p = 0; p < persons; p++) {
                if (rank[p] != OUT && !isOfKind(kind[p], LOYAL)) {
                    those |= 1 << p;
                }
            }
            return those;
        }

        boolean isEnough(int some, int all) {
            return some > 0 && some * laws[PARTS] >= all;
        }

        /** Those who are turned OUT in (a) of this month. */
        int falling() {
            int counting = counting();
            int set = 0;
            for (int q = 0; q < persons; q++) {
                int judges = judgesOf(q, counting);
                if (judges != 0 && isEnough(Integer.bitCount(wanting(judges, q)), Integer.bitCount(judges))) {
                    set |= 1 << q;
                }
            }
            return set;
        }

        // ---- months

        int firstByLaw(int set) {
            switch (laws[LAW]) {
                case ELDEST:
                    return mostBy(age, set);
                case RICHEST:
                    return mostBy(gold, set);
                default:
                    return leastOf(set);
            }
        }

        /** Months go: how many are turned OUT. */
        int pass(int n) {
            int before = turned;
            for (int i = 0; i < n; i++) {
                goMonth();
            }
            return turned - before;
        }

        /** Months go as long as a person is in a rank: whether he still is. */
        boolean keeps(int p, int n) {
            for (int i = 0; i < n && rank[p] != OUT; i++) {
                goMonth();
            }
            return rank[p] != OUT;
        }

        void goMonth() {
            turnOut(falling());
            fillSeats();
            pay();
            if (month % 12 == 11) {
                growOlder();
            }
            month++;
        }

        void turnOut(int set) {
            for (int p = 0; p < persons && set != 0; p++) {
                if ((set >> p & 1) != 0) {
                    moveTo(p, OUT);
                }
            }
            turned += Integer.bitCount(set);
        }

        void fillSeats() {
            for (int r = 0; r < RANKS - 1; r++) {
                for (int free = seats[r] - sizeOf(r); free > 0 && in[r + 1] != 0; free--) {
                    int first = firstByLaw(in[r + 1]);
                    if (has(first)) {
                        moveTo(first, r);
                    }
                }
            }
        }

        void pay() {
            for (int p = 0; p < persons; p++) {
                if (rank[p] != OUT) {
                    gold[p] = Math.min(MOST_GOLD, gold[p] + RANKS - rank[p]);
                }
            }
        }

        void growOlder() {
            for (int p = 0; p < persons; p++) {
                age[p] = Math.min(MOST_AGE, age[p] + 1);
            }
        }

        /** The person that a draw gives; nobody, if there are none. */
        int drawPerson() {
            z = z * 1103515245 + 12345;
            return persons > 0 ? (z >>> 8) % persons : NOBODY;
        }
    }

    /** The tape, and the reading of it token by token. */
    private static final class Tape {
        private static final int END = 0;
        private static final int WORD = 1;
        private static final int NUMBER = 2;
        private static final int SIGN = 3;
        private static final int STRANGE = 4;
        private static final int MOST_NUMBER = 9999;

        final int[] bytes = new int[MOST_BYTES];
        int length;
        /** The token that is looked at: where it begins, where it ends, what it is. */
        private int start;
        private int end;
        private int sort;
        private int number;

        /** Tells the tape's items to an empire: how many, or -1 less the fault. */
        int tell(Empire empire) {
            end = 0;
            next();
            for (int items = 1; items <= MOST_BYTES; items++) {
                if (!tellItem(empire)) {
                    break;
                }
                if (sort == END) {
                    return items;
                }
                if (sort != SIGN) {
                    break;
                }
                next();
            }
            // Whatever couldn't stand is the token that is looked at.
            return -1 - start;
        }

        private boolean tellItem(Empire empire) {
            if (isWord("rank")) {
                return tellRank(empire);
            }
            int what = lawTold();
            if (isWithin(what, 0, LAWS - 1)) {
                return tellNumber(empire.laws, what, LEAST_OF_LAW[what], MOST_OF_LAW[what]);
            }
            int kind = kindTold();
            return isKind(kind) && empire.persons < MOST_PERSONS && tellPerson(empire, kind);
        }

        private boolean tellRank(Empire empire) {
            next();
            if (!isNumber(0, RANKS - 1)) {
                return false;
            }
            int rank = number;
            next();
            return isWord("seats") && tellNumber(empire.seats, rank, empire.sizeOf(rank), MOST_SEATS);
        }

        private boolean tellPerson(Empire empire, int kind) {
            next();
            if (!isWord("in")) {
                return false;
            }
            next();
            if (!isNumber(0, RANKS - 1) || !empire.hasFree(number)) {
                return false;
            }
            int p = empire.addOne(kind, number);
            next();
            return tellDetail("age", empire.age, p, MOST_AGE)
                    && tellDetail("house", empire.house, p, MOST_HOUSE)
                    && tellDetail("gold", empire.gold, p, MOST_GOLD)
                    && tellDetail("grudge", empire.grudge, p, p - 1);
        }

        /** Whether a detail is left out or told well. */
        private boolean tellDetail(String word, int[] row, int p, int most) {
            return !isWord(word) || tellNumber(row, p, 0, most);
        }

        /** The number behind the word that is looked at goes into a row, if it is as told. */
        private boolean tellNumber(int[] row, int i, int least, int most) {
            next();
            if (!isNumber(least, most)) {
                return false;
            }
            row[i] = number;
            next();
            return true;
        }

        private int lawTold() {
            if (isWord("law")) {
                return LAW;
            }
            if (isWord("parts")) {
                return PARTS;
            }
            return isWord("price") ? PRICE : -1;
        }

        private int kindTold() {
            if (isWord("person")) {
                return PERSON;
            }
            if (isWord("loyal")) {
                return LOYAL;
            }
            if (isWord("bought")) {
                return BOUGHT;
            }
            if (isWord("sly")) {
                return SLY;
            }
            if (isWord("kin")) {
                return KIN;
            }
            if (isWord("plotter")) {
                return PLOTTER;
            }
            return isWord("hermit") ? HERMIT : -1;
        }

        private boolean isWord(String word) {
            if (sort != WORD || end - start != word.length()) {
                return false;
            }
            for (int i = 0; i < word.length(); i++) {
                if (bytes[start + i] != word.charAt(i)) {
                    return false;
                }
            }
            return true;
        }

        private boolean isNumber(int least, int most) {
            return sort == NUMBER && isWithin(number, least, most);
        }

        private void next() {
            start = end;
            while (start < length && bytes[start] == ' ') {
                start++;
            }
            sort = sortAt(start);
            end = Math.min(start + 1, length);
            boolean goesOn = sort == WORD || sort == NUMBER;
            while (goesOn && end < length && sortAt(end) == sort) {
                end++;
            }
            number = sort == NUMBER ? valueTold() : 0;
        }

        private int sortAt(int place) {
            if (place >= length) {
                return END;
            }
            int c = bytes[place];
            if (c >= 'a' && c <= 'z') {
                return WORD;
            }
            if (c >= '0' && c <= '9') {
                return NUMBER;
            }
            return c == ';' ? SIGN : STRANGE;
        }

        private int valueTold() {
            int value = 0;
            // One above the greatest is too great already: more digits need not be told, and would run over.
            for (int i = start; i < end && value <= MOST_NUMBER; i++) {
                value = value * 10 + bytes[i] - '0';
            }
            return value;
        }
    }

    /** A row of numbers of so many bits; of none, if it is missing. */
    private static final class Sheet {
        final int[] numbers = new int[MOST_NUMBERS];
        int bits;
        int size;

        boolean isMissing() {
            return bits == 0;
        }

        void begin(int newBits, int newSize) {
            bits = newBits;
            size = newBits == 0 ? 0 : newSize;
            for (int i = 0; i < MOST_NUMBERS; i++) {
                numbers[i] = 0;
            }
        }

        int cut(int v) {
            if (bits == 8) {
                return (byte) v;
            }
            return bits == 16 ? (short) v : v;
        }

        boolean hasRow(int from, int n) {
            return from >= 0 && n >= 0 && from <= size && n <= size - from;
        }
    }
}
