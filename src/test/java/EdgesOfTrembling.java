/** Boundary cases of promises 12 to 16: who trembles. */
final class EdgesOfTrembling extends EdgeWords {
    private EdgesOfTrembling() {
    }

    // ---- 12: wants

    /** 0 in rank 0 and 1, of a kind, in rank 2, with a grudge against 0. */
    private static Edge hater(int kind) {
        return people(0, 0, 2).then("change(1, 0, " + kind + ")", "grudge(1, 0)");
    }

    static void p12_aOneThatThereIsNotIsBeyond() {
        court().refusesEach("wants(?, 0)", BEYOND, -1, 8, 12, MIN, MAX);
        fresh().refuses("wants(0, 1)", BEYOND);
    }

    static void p12_anOtherThatThereIsNotIsBeyond() {
        court().refusesEach("wants(0, ?)", BEYOND, -1, 8, 12, MIN, MAX);
    }

    static void p12_itselfIsBeyond() {
        court().refuses("wants(2, 2)", BEYOND);
        people(3, 0).refuses("wants(0, 0)", BEYOND);
    }

    static void p12_theFirstAndTheLastPersonMayBeAsked() {
        crowd().then("grudge(11, 0)", "grudge(0, 11)").asks("wants(11, 0)", 1).asks("wants(0, 11)", 1);
    }

    static void p12_aPersonWantsItsGrudgeAlone() {
        people(0, 0, 2, 0).then("grudge(1, 0)").asks("wants(1, 0)", 1).asks("wants(1, 2)", 0).asks("wants(0, 1)", 0)
                .then("grudge(1, -1)").asks("wants(1, 0)", 0);
    }

    static void p12_ranksAreNotAskedNorWhetherOneIsOut() {
        hater(0).then("put(1, -1)").asks("wants(1, 0)", 1).then("put(0, -1)").asks("wants(1, 0)", 1)
                .then("put(1, 0)").asks("wants(1, 0)", 1);
    }

    static void p12_aLoyalOneAndAHermitWantNothing() {
        hater(1).asks("wants(1, 0)", 0);
        hater(6).asks("wants(1, 0)", 0);
    }

    static void p12_aBoughtOneWantsItBelowThePrice() {
        hater(2).then("gift(1, 49)").asks("wants(1, 0)", 1);
    }

    static void p12_aBoughtOneWantsItNotAtThePrice() {
        hater(2).then("gift(1, 50)").asks("wants(1, 0)", 0);
    }

    static void p12_aBoughtOneWantsItNotAboveThePrice() {
        hater(2).then("gift(1, 51)").asks("wants(1, 0)", 0);
    }

    static void p12_atPrice0ABoughtOneNeverWants() {
        hater(2).then("law(2, 0)").asks("wants(1, 0)", 0).then("law(2, 1)").asks("wants(1, 0)", 1);
    }

    static void p12_atPrice999998IsTooLittle() {
        hater(2).then("law(2, 999)", "change(0, 4, 999)", "gift(1, 998)").asks("wants(1, 0)", 1).then("gift(1, 1)")
                .asks("wants(1, 0)", 0);
    }

    static void p12_aGiftDoesNotHinderAPersonAKinOrAPlotterOne() {
        hater(0).then("gift(1, 100)").asks("wants(1, 0)", 1);
        hater(4).then("gift(1, 100)", "change(1, 3, 1)").asks("wants(1, 0)", 1);
        hater(5).then("gift(1, 100)").asks("wants(1, 0)", 1);
    }

    static void p12_aSlyOneIsBoughtLikeABoughtOne() {
        people(3, 0, 2, 0).then("change(2, 4, 999)", "grudge(1, 0)", "gift(1, 49)").asks("wants(1, 0)", 1)
                .then("gift(1, 1)").asks("wants(1, 0)", 0);
    }

    static void p12_aSlyOneWantsTheRichestOfARank() {
        people(3, 0, 2, 0).then("change(2, 4, 101)").asks("wants(1, 2)", 1).asks("wants(1, 0)", 0);
    }

    static void p12_aSlyOneWantsTheLeastNumberOfSeveralRichest() {
        people(3, 0, 2, 0).asks("wants(1, 0)", 1).asks("wants(1, 2)", 0);
    }

    static void p12_aSlyOneWantsOneWhoIsAloneAlsoWithoutGold() {
        people(3, 0, 2).then("change(0, 4, 0)").asks("wants(1, 0)", 1);
    }

    static void p12_aSlyOneWantsTheRichestThoughBought() {
        people(3, 0, 2).then("grudge(1, 0)", "gift(1, 50)").asks("wants(1, 0)", 1);
    }

    static void p12_aSlyOneWantsNobodyWhoIsOutForHisGold() {
        people(3, 0, 2, 5).then("change(0, 4, 9999)", "put(0, -1)", "put(2, -1)").asks("wants(1, 0)", 0)
                .asks("wants(1, 2)", 0);
    }

    static void p12_aSlyOneWantsTheRichestAlsoInHisOwnRankAndIfHeIsOut() {
        people(3, 2, 2).then("change(1, 4, 101)").asks("wants(0, 1)", 1).asks("wants(1, 0)", 0).then("put(0, -1)")
                .asks("wants(0, 1)", 1);
    }

    static void p12_aSlyOneInTheSameRankWhoIsRicherLeavesThePoorer() {
        people(3, 2, 2).asks("wants(1, 0)", 1).asks("wants(0, 1)", 0);
    }

    static void p12_aHermitMayBeTheRichest() {
        people(3, 0, 2, 0).then("change(2, 0, 6)", "change(2, 4, 200)").asks("wants(1, 2)", 1).asks("wants(1, 0)", 0);
    }

    static void p12_aKinOneWantsItsGrudgeOfAnotherHouseAlone() {
        hater(4).asks("wants(1, 0)", 0).then("change(1, 3, 3)").asks("wants(1, 0)", 1).then("change(0, 3, 3)")
                .asks("wants(1, 0)", 0).then("change(1, 3, 0)").asks("wants(1, 0)", 1).then("grudge(1, -1)")
                .asks("wants(1, 0)", 0);
    }

    static void p12_aPlotterWantsOneWhoIsElderByAYear() {
        people(5, 0, 2).then("change(0, 2, 31)").asks("wants(1, 0)", 1);
    }

    static void p12_aPlotterWantsNobodyAsOldOrYounger() {
        people(5, 0, 2).asks("wants(1, 0)", 0).then("change(0, 2, 29)").asks("wants(1, 0)", 0);
    }

    static void p12_aPlotterWantsNobodyOneOrThreeRanksAboveOrTwoBelow() {
        people(5, 1, 3, 2, 4, 5, 0).then("change(0, 2, 99)", "change(2, 2, 99)", "change(3, 2, 99)",
                "change(4, 2, 99)", "change(5, 2, 99)").asks("wants(1, 0)", 1).asks("wants(1, 2)", 0)
                .asks("wants(1, 3)", 0).asks("wants(1, 4)", 0).asks("wants(1, 5)", 0);
    }

    static void p12_aPlotterWhoIsOutWantsHisGrudgeAlone() {
        people(5, 0, 2).then("change(0, 2, 99)", "put(1, -1)").asks("wants(1, 0)", 0).then("grudge(1, 0)")
                .asks("wants(1, 0)", 1);
    }

    static void p12_oneWhoIsOutIsNotTwoAboveAPlotterInRank1() {
        people(5, 0, 1).then("change(0, 2, 99)", "put(0, -1)").asks("wants(1, 0)", 0);
    }

    static void p12_aPlotterWantsHisGrudgeThoughYounger() {
        hater(5).then("change(0, 2, 1)").asks("wants(1, 0)", 1);
    }

    // ---- 13: against

    static void p13_aPersonThatThereIsNotIsBeyond() {
        court().refusesEach("against(?)", BEYOND, -1, 8, 12, MIN, MAX);
        fresh().refuses("against(0)", BEYOND);
    }

    static void p13_oneWhoIsOutIsState() {
        court().refuses("against(7)", STATE);
    }

    static void p13_inRanks6And7ItIsNobody() {
        people(0, 6, 7, 0).then("grudge(2, 0)", "grudge(1, 0)", "grudge(0, 1)").asks("against(0)", 0)
                .asks("against(1)", 0);
    }

    static void p13_inRank5ThoseOfRank7() {
        people(0, 5, 7).then("grudge(1, 0)").asks("against(0)", 2);
    }

    static void p13_allFourOrNobody() {
        Edge run = people(0, 0, 2, 2, 2, 2).asks("against(0)", 0);
        run.then("grudge(1, 0)", "grudge(2, 0)", "grudge(3, 0)", "grudge(4, 0)").asks("against(0)", 30);
    }

    static void p13_theFirstAndTheLastPersonMayBeIn() {
        people(0, 2, 0).then("grudge(0, 1)").asks("against(1)", 1);
        people(0, 0, 1, 1, 1, 1, 3, 3, 3, 3, 4, 2, 2).then("grudge(11, 0)").asks("against(0)", 2048);
    }

    static void p13_thoseOfOtherRanksAreNotIn() {
        people(0, 2, 1, 2, 3, 5, 0).then("grudge(1, 0)", "grudge(2, 0)", "grudge(3, 0)", "grudge(4, 0)",
                "grudge(5, 0)").asks("against(0)", 0);
    }

    static void p13_aHermitIsNotIn() {
        people(6, 0, 2).then("grudge(1, 0)").asks("against(0)", 0);
    }

    static void p13_oneWhoIsOutIsNotIn() {
        people(0, 0, 2).then("grudge(1, 0)", "put(1, -1)").asks("against(0)", 0);
    }

    static void p13_nobodyTwoBelow() {
        people(0, 0).asks("against(0)", 0);
    }

    // ---- 14: lacks

    static void p14_aPersonThatThereIsNotIsBeyond() {
        court().refusesEach("lacks(?)", BEYOND, -1, 8, 12, MIN, MAX);
        fresh().refuses("lacks(0)", BEYOND);
    }

    static void p14_oneWhoIsOutIsState() {
        court().refuses("lacks(7)", STATE);
    }

    static void p14_stateGoesAheadOfNone() {
        people(0, 7).then("put(0, -1)").refuses("lacks(0)", STATE);
    }

    static void p14_ranks6And7AreNone() {
        people(0, 6, 7).refuses("lacks(0)", NONE).refuses("lacks(1)", NONE);
    }

    static void p14_rank5IsNot() {
        people(0, 5, 7).asks("lacks(0)", 1);
    }

    static void p14_nobodyTwoBelowIsNone() {
        people(0, 0, 1, 3).refuses("lacks(0)", NONE);
    }

    static void p14_hermitsAloneTwoBelowAreNone() {
        people(6, 0, 2, 2).refuses("lacks(0)", NONE);
    }

    static void p14_oneWhoCountsIsEnoughForNoNone() {
        people(6, 0, 2, 2).then("change(2, 0, 1)").asks("lacks(0)", 1);
    }

    static void p14_howManyOfOneToFourByParts1To5() {
        int[][] due = {{1, 1, 1, 1, 1}, {2, 1, 1, 1, 1}, {3, 2, 1, 1, 1}, {4, 2, 2, 1, 1}};
        for (int all = 1; all <= 4; all++) {
            Edge run = people(0, 0);
            for (int i = 0; i < all; i++) {
                run.then("person(0, 2)");
            }
            for (int parts = 1; parts <= 5; parts++) {
                run.then("law(1, " + parts + ")").asks("lacks(0)", due[all - 1][parts - 1]);
            }
        }
    }

    static void p14_justEnoughIs0AndOneLessIs1() {
        people(0, 0, 2, 2, 2, 2).then("grudge(1, 0)").asks("lacks(0)", 1).asks("tremble()", 0)
                .then("grudge(2, 0)").asks("lacks(0)", 0).asks("tremble()", 1);
    }

    static void p14_moreThanEnoughIs0() {
        people(0, 0, 2, 2, 2, 2).then("grudge(1, 0)", "grudge(2, 0)", "grudge(3, 0)", "grudge(4, 0)")
                .asks("lacks(0)", 0);
    }

    static void p14_thoseWhoWouldNeverAreAskedToo() {
        people(1, 0, 2, 2, 2, 2).asks("lacks(0)", 2);
    }

    // ---- 15: tremble

    static void p15_withNoPersonsItIsNobody() {
        fresh().asks("tremble()", 0);
    }

    static void p15_justEnough() {
        people(0, 0, 2, 2, 2).then("grudge(1, 0)").asks("tremble()", 1);
    }

    static void p15_byTheFirstAndByTheLastPersonAlone() {
        people(0, 2, 0).then("grudge(0, 1)").asks("tremble()", 2);
        people(0, 0, 1, 1, 1, 1, 3, 3, 3, 3, 4, 4, 2).then("grudge(11, 0)").asks("tremble()", 1);
    }

    static void p15_theLastPerson() {
        people(0, 2, 1, 1, 1, 1, 3, 3, 3, 3, 4, 4, 0).then("grudge(0, 11)").asks("tremble()", 2048);
    }

    static void p15_oneTooFew() {
        people(0, 0, 2, 2, 2, 2).then("grudge(1, 0)").asks("tremble()", 0);
    }

    static void p15_nobodyWhoCountsTwoBelow() {
        people(6, 0, 2).then("grudge(1, 0)").asks("tremble()", 0);
        people(0, 0).asks("tremble()", 0);
    }

    static void p15_fromRank0ToRank5AndNoFurther() {
        people(0, 0, 2, 5, 7, 6).then("grudge(1, 0)", "grudge(3, 2)", "grudge(2, 4)", "grudge(4, 3)")
                .asks("tremble()", 1 + 4);
    }

    static void p15_oneWhoIsOutTremblesNot() {
        people(0, 0, 2).then("grudge(1, 0)", "put(0, -1)").asks("tremble()", 0);
    }

    static void p15_oneWhoIsOutIsNotTwoAboveRank1() {
        // RANK -1 is told of one who is OUT, and -1 and 2 are 1: but that is no rank.
        people(0, 0, 1).then("grudge(1, 0)", "put(0, -1)").asks("tremble()", 0);
        people(5, 0, 1).then("change(0, 2, 99)", "put(0, -1)").asks("tremble()", 0);
    }

    static void p15_aHermitAndALoyalOneMayTremble() {
        people(6, 0, 2, 0).then("change(1, 0, 0)", "grudge(1, 0)").asks("tremble()", 1).then("change(0, 0, 1)")
                .asks("tremble()", 1);
    }

    static void p15_itIsThoseWhomTheNextMonthTurnsOut() {
        court().asks("tremble()", 1).answers("months(1)", 1).asks("of(0, 1)", -1).asks("of(1, 1)", 0);
    }

    // ---- 16: heir

    static void p16_aRankBelow0IsBeyond() {
        court().refusesEach("heir(?)", BEYOND, -1, MIN);
    }

    static void p16_aRankAbove6IsBeyond() {
        court().refusesEach("heir(?)", BEYOND, 7, 8, MAX);
    }

    static void p16_ranks0And6MayBeAsked() {
        people(0, 1, 7).asks("heir(0)", 0).asks("heir(6)", 1);
    }

    static void p16_nobodyInTheNextRankIsNone() {
        people(0, 0, 2).refuses("heir(0)", NONE).then("law(0, 1)").refuses("heir(0)", NONE).then("law(0, 2)")
                .refuses("heir(0)", NONE);
        fresh().refuses("heir(6)", NONE);
    }

    static void p16_allOfTheNextRankAreOutIsNone() {
        people(0, 1).then("put(0, -1)").refuses("heir(0)", NONE);
    }

    static void p16_seatsAreNotAsked() {
        people(0, 1, 0).then("seats(0, 1)").asks("heir(0)", 0).then("put(1, -1)", "seats(0, 0)").asks("heir(0)", 0);
    }

    static void p16_law0OfSeveralEldestTheLeastNumber() {
        people(0, 1, 1, 1).then("change(1, 2, 31)", "change(2, 2, 31)").asks("heir(0)", 1);
    }

    static void p16_law1OfSeveralRichestTheLeastNumber() {
        people(0, 1, 1, 1).then("law(0, 1)", "change(1, 4, 101)", "change(2, 4, 101)").asks("heir(0)", 1);
    }

    static void p16_law2TheLeastNumber() {
        people(0, 1, 1, 1).then("law(0, 2)", "change(1, 2, 99)", "change(2, 4, 9999)").asks("heir(0)", 0)
                .then("put(0, -1)").asks("heir(0)", 1);
    }

    static void p16_oneWithoutAgeOrGoldMayBeFirst() {
        people(0, 1).then("change(0, 2, 0)", "change(0, 4, 0)").asks("heir(0)", 0).then("law(0, 1)")
                .asks("heir(0)", 0);
    }

    static void p16_aHermitMayBeFirst() {
        people(6, 1).asks("heir(0)", 0);
    }
}
