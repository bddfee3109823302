/** Boundary cases of promises 26 to 30: plots. */
final class EdgesOfPlots extends EdgeWords {
    private EdgesOfPlots() {
    }

    // ---- 26: plot

    /** 0 in rank 0 and four of a kind in rank 2, who can't move up. */
    private static Edge five(int kind) {
        return people(kind, 0, 2, 2, 2, 2).then("seats(1, 0)");
    }

    /** Twelve, of whom eleven may be in a plot against 0. */
    private static Edge twelve() {
        return people(0, 0, 2, 2, 2, 2, 4, 4, 4, 4, 6, 6, 6);
    }

    static void p26_aPersonThatThereIsNotIsBeyond() {
        court().refusesEach("plot(?, 1)", BEYOND, -1, 8, 12, MIN, MAX);
        fresh().refuses("plot(0, 1)", BEYOND);
    }

    static void p26_fewerThan1AreBeyond() {
        court().refusesEach("plot(0, ?)", BEYOND, 0, -1, MIN);
    }

    static void p26_moreThan12AreBeyond() {
        court().refusesEach("plot(0, ?)", BEYOND, 13, MAX);
    }

    static void p26_oneAnd12MonthsMayBeAsked() {
        five(0).asks("plot(0, 1)", 6).asks("plot(0, 12)", 6);
    }

    static void p26_itIsOutIsState() {
        court().refuses("plot(7, 1)", STATE);
    }

    static void p26_monthWouldBe1000IsState() {
        five(0).late(988).refuses("plot(0, 12)", STATE);
        five(0).late(999).refuses("plot(0, 1)", STATE);
    }

    static void p26_monthWouldBe999() {
        five(0).late(987).asks("plot(0, 12)", 6);
    }

    static void p26_elevenIsSize() {
        twelve().refuses("plot(0, 1)", SIZE);
    }

    static void p26_tenAreNot() {
        twelve().then("change(11, 0, 1)").asks("plot(0, 1)", 2 + 4);
        twelve().then("change(11, 0, 4)").asks("plot(0, 1)", 2 + 4);
        twelve().then("change(11, 0, 6)").asks("plot(0, 1)", 2 + 4);
        twelve().then("put(11, -1)").asks("plot(0, 1)", 2 + 4);
    }

    static void p26_sizeThoughNobodyIsNeeded() {
        twelve().then("grudge(1, 0)", "grudge(2, 0)").refuses("plot(0, 1)", SIZE);
    }

    static void p26_beyondGoesAheadOfStateAndSize() {
        twelve().refuses("plot(0, 13)", BEYOND).refuses("plot(12, 1)", BEYOND).then("put(0, -1)")
                .refuses("plot(0, 0)", BEYOND);
    }

    static void p26_stateGoesAheadOfSize() {
        twelve().then("put(0, -1)").refuses("plot(0, 1)", STATE);
    }

    static void p26_sizeGoesAheadOfNone() {
        twelve().refuses("plot(11, 1)", SIZE);
    }

    static void p26_nobodyIsNeeded() {
        five(0).then("grudge(1, 0)", "grudge(3, 0)").asks("plot(0, 1)", 0);
    }

    static void p26_justOne() {
        five(0).then("law(1, 4)").asks("plot(0, 1)", 2);
    }

    static void p26_all() {
        five(0).then("law(1, 1)").asks("plot(0, 1)", 30);
    }

    static void p26_allAndNotEnoughIsNone() {
        five(0).then("law(1, 1)", "change(4, 0, 1)").refuses("plot(0, 1)", NONE);
    }

    static void p26_nobodyWhoMayBeInItIsNone() {
        people(0, 0).refuses("plot(0, 12)", NONE);
        five(1).refuses("plot(0, 12)", NONE);
        five(4).then("change(0, 3, 1)").refuses("plot(0, 12)", NONE);
        five(6).refuses("plot(0, 12)", NONE);
    }

    static void p26_personsBoughtSlyAndPlottersMayBeInIt() {
        five(2).asks("plot(0, 1)", 6);
        five(5).asks("plot(0, 1)", 6);
        five(3).then("change(0, 4, 0)", "person(0, 0)").asks("plot(0, 1)", 6);
    }

    static void p26_theFirstAndTheLastPersonMayBeInIt() {
        people(0, 2, 0).then("seats(1, 0)").asks("plot(1, 1)", 1);
        people(1, 0, 1, 1, 1, 1, 3, 3, 3, 3, 4, 4, 2).then("seats(1, 4)", "change(11, 0, 0)").asks("plot(0, 1)", 2048);
    }

    static void p26_theFirstPersonIsNotInItIfLoyalOrOut() {
        people(0, 2, 0, 2).then("seats(1, 0)", "law(1, 2)", "change(0, 0, 1)").asks("plot(1, 1)", 4)
                .then("change(0, 0, 0)", "put(0, -1)").asks("plot(1, 1)", 4);
        people(0, 2, 0).then("seats(1, 0)", "change(0, 0, 1)").refuses("plot(1, 12)", NONE);
        // Were he counted, there would be eleven.
        twelve().then("change(0, 0, 1)").asks("plot(1, 1)", 32 + 64);
        twelve().then("put(0, -1)").asks("plot(1, 1)", 32 + 64);
    }

    static void p26_theOneItIsAboutIsNotInIt() {
        // Were he in it, there would be eleven.
        twelve().then("change(11, 0, 1)").asks("plot(0, 1)", 2 + 4).asks("plot(1, 1)", 32 + 64);
    }

    static void p26_thoseOutAreNotInIt() {
        five(0).then("law(1, 1)", "put(1, -1)").asks("plot(0, 1)", 4 + 8 + 16);
    }

    static void p26_fewestGoAheadOfTheLeastNumber() {
        // 1 and 2 are half of those in rank 2 and enough now; 3 is alone there a month later, when they have moved up.
        people(0, 0, 2, 2, 3, 2, 2).then("seats(0, 1)", "law(1, 2)", "change(4, 0, 1)", "change(5, 0, 1)")
                .asks("plot(0, 1)", 2 + 4).asks("plot(0, 2)", 8);
    }

    static void p26_ofSeveralAsFewTheLeast() {
        five(0).then("change(1, 0, 1)").asks("plot(0, 1)", 4 + 8);
    }

    static void p26_giftsAre0ForThoseInIt() {
        people(2, 0, 2).then("seats(1, 0)", "grudge(1, 0)", "gift(1, 100)").asks("plot(0, 1)", 2).asks("of(1, 6)", 100);
    }

    static void p26_giftsStayForThoseWhoAreNotInIt() {
        // 1 is bought, and won anew by the plot; 2 alone is not enough.
        people(2, 0, 2, 2).then("seats(1, 0)", "law(1, 1)", "grudge(1, 0)", "gift(1, 60)", "grudge(2, 0)")
                .asks("plot(0, 1)", 2);
    }

    static void p26_atPrice0BoughtOnesCannotBeWon() {
        five(2).then("law(2, 0)").refuses("plot(0, 12)", NONE);
    }

    static void p26_ranks6And7AreNoneIfTheyStayThere() {
        people(0, 6, 7, 0).then("seats(5, 0)", "seats(6, 1)").refuses("plot(0, 12)", NONE).refuses("plot(1, 12)", NONE);
    }

    // ---- 27: undo

    static void p27_aPersonThatThereIsNotIsBeyond() {
        court().refusesEach("undo(?, 1)", BEYOND, -1, 8, 12, MIN, MAX);
        fresh().refuses("undo(0, 1)", BEYOND);
    }

    static void p27_fewerThan1AreBeyond() {
        court().refusesEach("undo(0, ?)", BEYOND, 0, -1, MIN);
    }

    static void p27_moreThan60AreBeyond() {
        court().refusesEach("undo(0, ?)", BEYOND, 61, MAX);
    }

    static void p27_oneAnd60MonthsMayBeAsked() {
        people(0, 0, 2).then("seats(1, 0)", "grudge(1, 0)").asks("undo(0, 1)", 2).asks("undo(0, 60)", 2);
    }

    static void p27_itIsOutIsState() {
        court().refuses("undo(7, 1)", STATE);
    }

    static void p27_monthWouldBe1000IsState() {
        people(0, 0, 2).late(940).refuses("undo(0, 60)", STATE);
        people(0, 0, 2).late(999).refuses("undo(0, 1)", STATE);
    }

    static void p27_monthWouldBe999() {
        people(0, 0, 2).late(939).asks("undo(0, 60)", 2);
    }

    static void p27_beyondGoesAheadOfState() {
        people(0, 0).then("put(0, -1)").refuses("undo(0, 61)", BEYOND).refuses("undo(1, 1)", BEYOND);
    }

    static void p27_allOthersIfItStaysAnyway() {
        twelve().asks("undo(11, 60)", 2047);
    }

    static void p27_nobodyIfNoneAloneIsEnough() {
        people(0, 0, 2, 2).then("seats(1, 0)", "grudge(1, 0)", "grudge(2, 0)").asks("undo(0, 1)", 0);
    }

    static void p27_theFirstAndTheLastPersonMayBeIn() {
        people(0, 2, 0).then("seats(1, 0)", "grudge(0, 1)").asks("undo(1, 1)", 1);
        people(0, 0, 1, 1, 1, 1, 3, 3, 3, 3, 4, 4, 2).then("grudge(11, 0)").asks("undo(0, 1)", 2048);
    }

    static void p27_itselfIsNotIn() {
        people(0, 0).asks("undo(0, 1)", 0);
    }

    static void p27_thoseOutAreNotIn() {
        people(0, 0, 2, 5).then("put(2, -1)").asks("undo(0, 1)", 2);
    }

    static void p27_toStrikeOneOutMayDoHarmToo() {
        // Without 2 the one who wants it is half of those who count.
        people(0, 0, 2, 2, 2).then("seats(1, 0)", "law(1, 2)", "grudge(1, 0)").asks("undo(0, 1)", 2);
    }

    static void p27_oneStruckOutIsInNoRank() {
        // The sly one wants the richest of rank 0: 1 is richer than 0, but in rank 1, and OUT then.
        people(0, 0, 1, 2).then("seats(0, 1)", "change(1, 4, 500)", "change(2, 0, 3)").asks("undo(0, 1)", 4);
    }

    static void p27_oneStruckOutIsNotTwoAboveRank0() {
        people(3, 0, 1, 2).then("put(2, -1)").asks("undo(0, 1)", 2);
    }

    // ---- 28: safe

    static void p28_withNoPersonsNobody() {
        fresh().asks("safe()", 0);
    }

    static void p28_ranks6And7AreSafe() {
        people(0, 6, 7).asks("safe()", 3);
    }

    static void p28_rank5IsNot() {
        people(0, 5, 7).asks("safe()", 2);
    }

    static void p28_thoseOutAreNotIn() {
        people(0, 6, 7).then("put(0, -1)").asks("safe()", 2);
    }

    static void p28_nobodyTwoBelowIsSafe() {
        people(0, 0, 1, 4).asks("safe()", 7);
    }

    static void p28_nobodyWhoCountsTwoBelowIsSafe() {
        people(6, 0, 2, 2).asks("safe()", 7);
    }

    static void p28_loyalOnesAloneTwoBelowAreSafe() {
        people(1, 0, 2, 2).then("law(1, 5)").asks("safe()", 7);
    }

    static void p28_eachKindThatMayWant() {
        for (int kind = 0; kind < 7; kind++) {
            boolean may = kind == 0 || kind == 2 || kind == 3 || kind == 5;
            people(kind, 0, 2).asks("safe()", may ? 2 : 3);
        }
    }

    static void p28_byTheFirstAndByTheLastPersonAlone() {
        people(0, 2, 0).asks("safe()", 1);
        people(1, 0, 1, 1, 1, 1, 3, 3, 3, 3, 4, 4, 2).then("change(11, 0, 0)").asks("safe()", 4094);
    }

    static void p28_kinOfAnotherHouseMayWant() {
        people(4, 0, 2).then("change(1, 3, 1)").asks("safe()", 2);
    }

    static void p28_loyalOnesAndHermitsOfAnotherHouseMayNot() {
        people(1, 0, 2).then("change(1, 3, 1)").asks("safe()", 3).then("change(1, 0, 6)").asks("safe()", 3);
    }

    static void p28_justEnoughWhoMayWantAreNotSafe() {
        people(1, 0, 2, 2, 2).then("change(1, 0, 0)").asks("safe()", 14);
    }

    static void p28_oneTooFewWhoMayWantAreSafe() {
        people(1, 0, 2, 2, 2, 2).then("change(1, 0, 0)").asks("safe()", 31).then("change(2, 0, 0)").asks("safe()", 30);
    }

    static void p28_aHermitAmongThemDoesNotCount() {
        people(1, 0, 2, 2, 2, 2).then("change(1, 0, 0)", "change(2, 0, 6)").asks("safe()", 30);
    }

    static void p28_whateverTheirGiftsAndGrudges() {
        people(2, 0, 2).then("grudge(1, 0)", "gift(1, 100)").asks("safe()", 2).then("grudge(1, -1)").asks("safe()", 2);
    }

    static void p28_whateverThePrice() {
        people(2, 0, 2).then("law(2, 0)").asks("safe()", 2);
    }

    // ---- 29: rumours

    static void p29_fewerThan1AreBeyond() {
        court().refusesEach("rumours(?)", BEYOND, 0, -1, MIN);
    }

    static void p29_moreThan12AreBeyond() {
        court().refusesEach("rumours(?)", BEYOND, 13, MAX);
    }

    static void p29_noPersonsIsState() {
        fresh().refusesEach("rumours(?)", STATE, 1, 12).asks("count(7)", 1);
    }

    static void p29_beyondGoesAheadOfState() {
        fresh().refusesEach("rumours(?)", BEYOND, 0, 13);
    }

    static void p29_oneTimeIsTwoDraws() {
        // 1 -> 1103527590, whose draw by 12 is 2 -> -1770082073, whose draw by 12 is 8
        crowd().answers("rumours(1)", 1).asks("count(7)", -1770082073).asks("of(2, 5)", 8);
    }

    static void p29_12TimesAre24Draws() {
        int z = 1;
        int[] grudges = new int[12];
        java.util.Arrays.fill(grudges, -1);
        for (int i = 0; i < 12; i++) {
            long first = z * 1103515245L + 12345L & 0xffffffffL;
            long second = first * 1103515245L + 12345L & 0xffffffffL;
            int p = (int) (first / 256 % 12);
            int q = (int) (second / 256 % 12);
            grudges[p] = p == q ? -1 : q;
            z = (int) second;
        }
        int many = (int) java.util.Arrays.stream(grudges).filter(g -> g >= 0).count();
        Edge run = crowd().answers("rumours(12)", many).asks("count(7)", z);
        for (int p = 0; p < 12; p++) {
            run.asks("of(" + p + ", 5)", grudges[p]);
        }
    }

    static void p29_oneAloneGetsNone() {
        people(0, 0).answers("rumours(12)", 0).asks("of(0, 5)", -1);
    }

    static void p29_itselfMakesItNoneAndTheGift0() {
        // From 1 on both draws by 3 are 2.
        people(2, 0, 1, 2).then("grudge(2, 0)", "gift(2, 30)", "grudge(0, 1)").answers("rumours(1)", 1)
                .asks("of(2, 5)", -1).asks("of(2, 6)", 0);
    }

    static void p29_anotherOneMakesTheGift0() {
        // From 8 on the draws by 3 are 2 and 0.
        people(2, 0, 1, 2).then("seed(8)", "grudge(2, 0)", "gift(2, 30)").answers("rumours(1)", 1)
                .asks("of(2, 5)", 0).asks("of(2, 6)", 0);
    }

    static void p29_thoseOutAreAmongThem() {
        people(0, 0, 1, 2).then("seed(8)", "put(2, -1)", "put(0, -1)").answers("rumours(1)", 1).asks("of(2, 5)", 0);
    }

    // ---- 30: seed

    static void p30_anyIntMayBeGiven() {
        fresh().answers("seed(MIN)", 1).asks("count(7)", MIN).answers("seed(MAX)", MIN).asks("count(7)", MAX)
                .answers("seed(0)", MAX).answers("seed(-1)", 0).asks("seed(-1)", -1);
    }

    static void p30_noAnswerIsAFinding() {
        fresh("seed(7)").answers("seed(-1000001)", 7).answers("seed(-1000007)", -1000001)
                .answers("seed(-1000008)", -1000007).asks("status(-1)", 0);
    }
}
