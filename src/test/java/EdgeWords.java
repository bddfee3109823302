/** The words in which boundary cases are told. */
abstract class EdgeWords {
    static final int BEYOND = Edge.BEYOND;
    static final int FULL = Edge.FULL;
    static final int KIND = Edge.KIND;
    static final int NONE = Edge.NONE;
    static final int STATE = Edge.STATE;
    static final int MISSING = Edge.MISSING;
    static final int SIZE = Edge.SIZE;
    static final int MIN = Edge.MIN;
    static final int MAX = Edge.MAX;

    static Edge fresh(String... calls) {
        return Edge.fresh(calls);
    }

    static Edge people(int kind, int... ranks) {
        return Edge.people(kind, ranks);
    }

    static Edge court(String... calls) {
        return Edge.court(calls);
    }

    /** Twelve persons, three in each of the ranks 0 to 3. */
    static Edge crowd() {
        return people(0, 0, 0, 0, 1, 1, 1, 2, 2, 2, 3, 3, 3);
    }

    static String row(char c, int n) {
        return String.valueOf(c).repeat(n);
    }
}
