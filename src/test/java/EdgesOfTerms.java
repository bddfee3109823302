/** Boundary cases of 'Terms': findings, who is turned out, who moves up, coins, years, draws. */
final class EdgesOfTerms extends EdgeWords {
    private EdgesOfTerms() {
    }

    // ---- findings

    static void terms0_beyondIsLow() {
        fresh().refuses("seats(8, 0)", -1000001).asks("status(0)", 1).asks("status(-1)", 1);
    }

    static void terms0_fullIsLowLess1() {
        fresh().tape(row('a', 120)).refuses("feed(0, 1)", -1000002).asks("status(1)", 1).asks("status(-1)", 1);
    }

    static void terms0_kindIsLowLess2() {
        fresh("person(0, 0)", "hold(0, 0)").refuses("as(0, 1)", -1000003).asks("status(2)", 1).asks("status(-1)", 1);
    }

    static void terms0_noneIsLowLess3() {
        fresh().refuses("back()", -1000004).asks("status(3)", 1).asks("status(-1)", 1);
    }

    static void terms0_stateIsLowLess4() {
        fresh().refuses("rumours(1)", -1000005).asks("status(4)", 1).asks("status(-1)", 1);
    }

    static void terms0_missingIsLowLess5() {
        fresh().refuses("load(0)", -1000006).asks("status(5)", 1).asks("status(-1)", 1);
    }

    static void terms0_sizeIsLowLess6() {
        fresh().refuses("sheet(0, 8, -1)", -1000007).asks("status(6)", 1).asks("status(-1)", 1);
    }

    static void terms0_aZToldAsLowAsAFindingIsNone() {
        Edge run = fresh();
        int was = 1;
        for (int z = BEYOND; z >= SIZE; z--) {
            run.answers("seed(" + z + ")", was).asks("count(7)", z);
            was = z;
        }
        run.asks("status(-1)", 0);
    }

    static void terms0_aSetIsToldAsBitsUpToThe12thPerson() {
        people(0, 1, 1, 1, 1, 2, 2, 2, 2, 0, 0, 0, 0).asks("rankOf(0, 2)", 256 + 512 + 1024 + 2048)
                .then("put(11, -1)", "put(0, -1)").asks("ahead(0, 0)", 1 + 2048);
    }

    // ---- 1: ranks, persons, what they are at first

    static void terms1_eachOfTheEightRanksHas3SeatsAtFirst() {
        Edge run = fresh();
        for (int r = 0; r < 8; r++) {
            run.asks("rankOf(" + r + ", 0)", 3);
            run.then("person(0, " + r + ")");
        }
        run.then("person(0, 0)", "person(0, 0)").refuses("person(0, 0)", STATE);
    }

    static void terms1_aPersonAtFirst() {
        fresh("person(5, 4)").asks("of(0, 0)", 5).asks("of(0, 1)", 4).asks("of(0, 2)", 30).asks("of(0, 3)", 0)
                .asks("of(0, 4)", 100).asks("of(0, 5)", -1).asks("of(0, 6)", 0);
    }

    static void terms1_lawPartsAndPriceAtFirst() {
        fresh().answers("law(0, 0)", 0).answers("law(1, 3)", 3).answers("law(2, 50)", 50);
    }

    static void terms1_allCountButAHermit() {
        Edge run = people(0, 2);
        for (int kind = 0; kind < 7; kind++) {
            run.then("change(0, 0, " + kind + ")").asks("rankOf(2, 3)", kind == 6 ? 0 : 1);
        }
    }

    // ---- 2 (a): who is turned out

    /** 0 in a rank, 1 with a grudge against him two ranks below; nobody can move up. */
    private static Edge pair(int rank) {
        Edge run = people(0, rank, rank + 2).then("grudge(1, 0)");
        for (int r = 0; r < 8; r++) {
            if (r != rank && r != rank + 2) {
                run.then("seats(" + r + ", 0)");
            }
        }
        return run;
    }

    static void terms2_eachOfRanks0To5IsTurnedOutByTheRankTwoBelow() {
        for (int rank = 0; rank <= 5; rank++) {
            pair(rank).asks("tremble()", 1).answers("months(1)", 1).asks("of(0, 1)", -1).asks("of(1, 1)", rank + 2);
        }
    }

    static void terms2_ranks6And7AreNeverTurnedOut() {
        people(0, 6, 7, 0, 1).then("grudge(2, 0)", "grudge(3, 1)", "grudge(1, 0)", "grudge(0, 1)")
                .asks("tremble()", 0).answers("months(60)", 0);
    }

    static void terms2_neitherOneBelowNorThreeBelowNorTwoAboveTurnsOut() {
        people(0, 2, 3, 5, 0, 2).then("grudge(1, 0)", "grudge(2, 0)", "grudge(3, 0)", "grudge(4, 0)")
                .asks("tremble()", 0).answers("months(1)", 0);
    }

    static void terms2_asManyAsThoseWhoCountIsEnough() {
        people(0, 0, 2, 2, 2).then("seats(1, 0)", "grudge(3, 0)").answers("months(1)", 1);
    }

    static void terms2_oneLessIsNotEnough() {
        people(0, 0, 2, 2, 2, 2).then("seats(1, 0)", "grudge(3, 0)").answers("months(1)", 0)
                .then("grudge(1, 0)").answers("months(1)", 1);
    }

    static void terms2_moreThanThoseWhoCountIsEnough() {
        people(0, 0, 2, 2).then("seats(1, 0)", "law(1, 5)", "grudge(2, 0)").answers("months(1)", 1);
    }

    static void terms2_withParts1AllMustWantIt() {
        people(0, 0, 2, 2, 2).then("seats(1, 0)", "law(1, 1)", "grudge(1, 0)", "grudge(2, 0)").answers("months(1)", 0)
                .then("grudge(3, 0)").answers("months(1)", 1);
    }

    static void terms2_withoutOneWhoWantsNobodyIsTurnedOut() {
        people(0, 0, 2).then("law(1, 5)").asks("tremble()", 0).answers("months(1)", 0);
    }

    static void terms2_withNobodyWhoCountsNobodyIsTurnedOut() {
        people(6, 0, 2, 2).then("grudge(1, 0)", "grudge(2, 0)", "law(1, 5)").asks("tremble()", 0)
                .answers("months(1)", 0);
    }

    static void terms2_withAnEmptyRankTwoBelowNobodyIsTurnedOut() {
        people(0, 0, 1).then("grudge(1, 0)").asks("tremble()", 0).answers("months(60)", 0);
    }

    static void terms2_oneWhoIsOutTurnsNobodyOutAndIsNotAmongThem() {
        people(0, 0, 2, 2, 2, 2).then("seats(1, 0)", "grudge(1, 0)", "put(1, -1)").asks("tremble()", 0)
                .then("grudge(2, 0)").asks("tremble()", 1);
    }

    static void terms2_allAtOnceAlsoByOneWhoIsTurnedOutHimself() {
        people(0, 0, 2, 4, 6).then("grudge(1, 0)", "grudge(2, 1)", "grudge(3, 2)").asks("tremble()", 1 + 2 + 4)
                .answers("months(1)", 3).asks("count(2)", 3).asks("count(3)", 3);
    }

    static void terms2_allAtOnceByTheGoldBeforeAnyoneFalls() {
        // Two equally rich in one rank: the sly one wants the first alone, not the next one when that one is gone.
        people(3, 0, 0, 2).then("seats(1, 0)", "seats(0, 2)").answers("months(1)", 1).asks("of(0, 1)", -1)
                .asks("of(1, 1)", 0).answers("months(1)", 1).asks("of(1, 1)", -1);
    }

    static void terms2_oneTurnedOutStaysOutForEver() {
        pair(0).answers("months(1)", 1).answers("months(60)", 0).asks("of(0, 1)", -1);
    }

    // ---- 2 (b): who moves up

    static void terms2_oneWhoIsOutIsNotTurnedOutByThoseOfRank1() {
        people(0, 0, 1).then("put(0, -1)", "grudge(1, 0)", "seats(0, 0)")
                .answers("months(1)", 0).asks("count(3)", 0).asks("ahead(5, 1)", 0);
    }

    static void terms2_aRankIsFilledFromTheNextOneOnlyOnceAMonth() {
        people(0, 3).then("months(1)").asks("of(0, 1)", 2).then("months(1)").asks("of(0, 1)", 1).then("months(1)")
                .asks("of(0, 1)", 0).then("months(1)").asks("of(0, 1)", 0);
    }

    static void terms2_rank6IsFilledFromRank7() {
        people(0, 7).then("seats(5, 0)", "months(1)").asks("of(0, 1)", 6);
    }

    static void terms2_aRankWithoutSeatsIsNotPassed() {
        people(0, 3).then("seats(2, 0)", "months(60)").asks("of(0, 1)", 3);
    }

    static void terms2_aFullRankTakesNobody() {
        people(0, 0, 0, 1).then("seats(0, 2)", "seats(1, 1)", "months(12)").asks("of(2, 1)", 1);
    }

    static void terms2_aSeatThatBecomesFreeIsFilledInTheSameMonth() {
        people(0, 0, 2, 1).then("seats(0, 1)", "seats(1, 1)", "grudge(1, 0)", "months(1)").asks("of(0, 1)", -1)
                .asks("of(2, 1)", 0).asks("of(1, 1)", 1).asks("of(2, 4)", 108).asks("of(1, 4)", 107);
    }

    static void terms2_asManyMoveUpAsThereAreSeats() {
        people(0, 1, 1, 1, 1, 0).then("seats(0, 3)", "seats(1, 4)", "law(0, 2)", "months(1)")
                .asks("rankOf(0, 2)", 16 + 1 + 2).asks("rankOf(1, 2)", 4 + 8);
    }

    static void terms2_asManyMoveUpAsThereArePersons() {
        people(0, 1, 1).then("months(1)").asks("rankOf(0, 2)", 3).asks("rankOf(1, 1)", 0);
    }

    static void terms2_nobodyMovesOverAnEmptyRank() {
        people(0, 2).then("months(1)").asks("rankOf(0, 1)", 0).asks("rankOf(1, 1)", 1);
    }

    static void terms2_aHermitMovesUpLikeAnother() {
        people(6, 1).then("months(1)").asks("of(0, 1)", 0);
    }

    static void terms2_oneWhoIsOutMovesNowhere() {
        people(0, 1).then("put(0, -1)", "months(60)").asks("of(0, 1)", -1).asks("rankOf(0, 1)", 0);
    }

    static void terms2_law0OfSeveralEldestTheLeastNumber() {
        people(0, 1, 1, 1).then("seats(0, 1)", "change(1, 2, 60)", "change(2, 2, 60)", "change(0, 4, 500)",
                "months(1)").asks("rankOf(0, 2)", 2);
    }

    static void terms2_law1OfSeveralRichestTheLeastNumber() {
        people(0, 1, 1, 1).then("law(0, 1)", "seats(0, 1)", "change(1, 4, 600)", "change(2, 4, 600)",
                "change(0, 2, 90)", "months(1)").asks("rankOf(0, 2)", 2);
    }

    static void terms2_law2TheLeastNumberWhateverAgeAndGold() {
        people(0, 1, 1, 1).then("law(0, 2)", "seats(0, 1)", "change(1, 4, 600)", "change(2, 2, 90)", "months(1)")
                .asks("rankOf(0, 2)", 1);
    }

    static void terms2_theEldestIsAskedForBeforeTheYearTurns() {
        people(0, 3, 3).then("seats(1, 0)", "seats(2, 0)", "months(11)", "change(0, 2, 98)", "change(1, 2, 99)",
                "seats(2, 1)", "months(1)").asks("of(1, 1)", 2).asks("of(0, 1)", 3);
    }

    static void terms2_theRichestIsAskedForBeforeTheCoinsCome() {
        people(0, 3, 3).then("law(0, 1)", "seats(1, 0)", "seats(2, 1)", "change(0, 4, 9998)", "change(1, 4, 9999)",
                "months(1)").asks("of(1, 1)", 2).asks("of(0, 1)", 3);
    }

    // ---- 2 (c): coins

    static void terms2_eachRankGets8LessRankCoins() {
        for (int rank = 0; rank < 8; rank++) {
            Edge run = people(0, rank);
            if (rank > 0) {
                run.then("seats(" + (rank - 1) + ", 0)");
            }
            run.then("months(1)").asks("of(0, 4)", 108 - rank);
        }
    }

    static void terms2_goldIs9999AtMost() {
        people(0, 0).then("change(0, 4, 9991)", "months(1)").asks("of(0, 4)", 9999);
        people(0, 0).then("change(0, 4, 9992)", "months(1)").asks("of(0, 4)", 9999);
        people(0, 0).then("change(0, 4, 9990)", "months(1)").asks("of(0, 4)", 9998);
        people(0, 0).then("change(0, 4, 9999)", "months(1)").asks("of(0, 4)", 9999);
    }

    static void terms2_oneWhoIsOutGetsNoCoins() {
        people(0, 0).then("put(0, -1)", "months(60)").asks("of(0, 4)", 100);
    }

    // ---- 2 (d): years

    static void terms2_ageGrowsWhenTheRestOfMonthBy12Is11() {
        people(0, 0).then("months(11)").asks("of(0, 2)", 30).then("months(1)").asks("of(0, 2)", 31).then("months(11)")
                .asks("of(0, 2)", 31).then("months(1)").asks("of(0, 2)", 32);
    }

    static void terms2_ageGrowsByMonthNotByHowLongOneIsThere() {
        fresh("months(11)", "person(0, 0)", "months(1)").asks("of(0, 2)", 31);
    }

    static void terms2_ageIs99AtMost() {
        people(0, 0, 0).then("change(0, 2, 98)", "change(1, 2, 99)", "months(12)").asks("of(0, 2)", 99)
                .asks("of(1, 2)", 99).then("months(12)").asks("of(0, 2)", 99);
    }

    static void terms2_ageOfOneWhoIsOutGrowsToo() {
        people(0, 0).then("put(0, -1)", "months(12)").asks("of(0, 2)", 31);
    }

    static void terms2_theLastYearEndsAtMonth996() {
        fresh("person(0, 0)", "change(0, 2, 0)").late(995).asks("of(0, 2)", 82).then("months(1)").asks("of(0, 2)", 83)
                .then("months(3)").asks("of(0, 2)", 83).asks("count(0)", 999);
    }

    static void terms2_turnedCountsThoseOfAMonthAlone() {
        pair(0).then("put(1, -1)").asks("count(3)", 0).then("put(1, 2)", "months(1)").asks("count(3)", 1)
                .then("put(1, -1)", "months(5)").asks("count(3)", 1);
    }

    static void terms2_turnedCountsOneTwiceWhoCameBack() {
        pair(0).then("months(1)", "put(0, 0)", "months(1)").asks("count(3)", 2);
    }

    // ---- gifts, draws

    static void terms2_aGiftGoesOverCoinByCoin() {
        people(2, 0, 2).then("grudge(1, 0)").answers("gift(1, 99)", 99).asks("of(0, 4)", 1).asks("of(1, 4)", 199)
                .answers("gift(1, 1)", 100).asks("of(0, 4)", 0).asks("of(1, 4)", 200).asks("count(4)", 200);
    }

    static void terms2_aheadChangesNothing() {
        court().asks("ahead(120, 0)", 128 + 1).asks("ahead(60, 7)", 0);
    }

    static void terms2_zIsAnIntThatWrapsAround() {
        // 8 -> 238199713, above 2147483647 by far were it not cut -> -386864698
        people(0, 0, 1, 2).then("seed(8)").answers("rumours(1)", 1).asks("count(7)", -386864698);
        people(0, 0, 1, 2).then("seed(MAX)").answers("rumours(1)", 0).asks("count(7)", -1858503659);
    }

    static void terms2_aDrawOfAZBelow0IsShiftedWithoutItsSign() {
        // MIN -> -2147471303, whose draw is 8388656, the rest of which by 3 is 2 -> 1406932606, whose rest is 1
        people(0, 0, 1, 2).then("seed(MIN)").answers("rumours(1)", 1).asks("of(2, 5)", 1).asks("count(7)", 1406932606);
        // -1 -> -1103502900, the rest of whose draw is 1 -> 288979989, whose rest is 0
        people(0, 0, 1, 2).then("seed(-1)").answers("rumours(1)", 1).asks("of(1, 5)", 0).asks("count(7)", 288979989);
    }

    static void terms2_zIs1AtFirst() {
        // 1 -> 1103527590 -> -1770082073; by 5: 4 and 2
        people(0, 0, 1, 2, 3, 4).answers("rumours(1)", 1).asks("of(4, 5)", 2).asks("count(7)", -1770082073);
    }

    // ---- 3: spots and sheets at first

    static void terms3_spots0To9HoldNothingAtFirst() {
        Edge run = fresh();
        for (int spot = 0; spot < 10; spot++) {
            run.refuses("as(" + spot + ", 0)", MISSING);
        }
    }

    static void terms3_sheets0To3AreMissingAtFirst() {
        Edge run = fresh();
        for (int s = 0; s < 4; s++) {
            run.refuses("load(" + s + ")", MISSING);
        }
    }
}
