/** Boundary cases of promises 22 to 25: gifts. */
final class EdgesOfGifts extends EdgeWords {
    private EdgesOfGifts() {
    }

    // ---- 22: least

    /** 0 in rank 0 stays as long as 1, a bought one in rank 2 with a grudge against him, is bought. */
    private static Edge buyer(int gold, int taker) {
        return people(2, 0, 2).then("seats(1, 0)", "grudge(1, 0)", "change(0, 4, " + gold + ")",
                "change(1, 4, " + taker + ")");
    }

    static void p22_aPersonThatThereIsNotIsBeyond() {
        court().refusesEach("least(?, 1)", BEYOND, -1, 8, 12, MIN, MAX);
        fresh().refuses("least(0, 1)", BEYOND);
    }

    static void p22_fewerThan1AreBeyond() {
        court().refusesEach("least(2, ?)", BEYOND, 0, -1, MIN);
    }

    static void p22_moreThan24AreBeyond() {
        court().refusesEach("least(2, ?)", BEYOND, 25, MAX);
    }

    static void p22_oneAnd24MonthsMayBeAsked() {
        buyer(100, 100).asks("least(1, 1)", 50).asks("least(1, 24)", 50);
    }

    static void p22_noGrudgeIsState() {
        people(2, 0, 2).refuses("least(1, 1)", STATE);
    }

    static void p22_thatOneIsOutIsState() {
        buyer(100, 100).then("put(0, -1)").refuses("least(1, 1)", STATE);
    }

    static void p22_thisOneMayBeOut() {
        buyer(100, 100).then("put(1, -1)").asks("least(1, 24)", 0);
    }

    static void p22_monthWouldBe1000IsState() {
        buyer(100, 100).then("law(2, 0)").late(976).then("law(2, 50)", "change(0, 4, 100)", "change(1, 4, 100)")
                .refuses("least(1, 24)", STATE);
    }

    static void p22_monthWouldBe999() {
        buyer(100, 100).then("law(2, 0)").late(975).then("law(2, 50)", "change(0, 4, 100)", "change(1, 4, 100)")
                .asks("least(1, 24)", 50);
        buyer(100, 100).then("law(2, 0)").late(999).refuses("least(1, 1)", STATE);
    }

    static void p22_beyondGoesAheadOfState() {
        people(2, 0, 2).refuses("least(1, 25)", BEYOND).refuses("least(2, 1)", BEYOND);
    }

    static void p22_stateGoesAheadOfNone() {
        buyer(0, 0).then("put(0, -1)").refuses("least(1, 1)", STATE);
    }

    static void p22_noGiftIsNeeded() {
        buyer(100, 100).then("law(2, 0)").asks("least(1, 24)", 0);
        buyer(0, 9999).then("law(2, 0)").asks("least(1, 24)", 0);
    }

    static void p22_oneCoin() {
        buyer(100, 100).then("law(2, 1)").asks("least(1, 24)", 1);
    }

    static void p22_999Coins() {
        buyer(999, 0).then("law(2, 999)").asks("least(1, 24)", 999);
    }

    static void p22_1000CoinsAreNone() {
        // 0 is the richest of his rank, which the sly one wants, as long as he isn't poorer than 1 there.
        Edge run = people(0, 0, 0, 2, 5).then("seats(0, 2)", "seats(1, 0)", "seats(4, 0)", "change(2, 0, 3)",
                "change(1, 4, 90)", "grudge(3, 0)", "change(0, 4, 1089)");
        run.refuses("least(3, 1)", NONE).then("change(0, 4, 1088)").asks("least(3, 1)", 999);
    }

    static void p22_thatOneHasNotSoMuchIsNone() {
        buyer(49, 100).refuses("least(1, 1)", NONE);
    }

    static void p22_thatOneHasJustSoMuch() {
        buyer(50, 100).asks("least(1, 1)", 50);
    }

    static void p22_thisOneWouldHave10000IsNone() {
        buyer(100, 9950).refuses("least(1, 1)", NONE);
    }

    static void p22_thisOneWouldHaveJust9999() {
        buyer(100, 9949).asks("least(1, 1)", 50);
    }

    static void p22_aGiftGivenBeforeIsCounted() {
        buyer(100, 100).then("gift(1, 49)").asks("least(1, 1)", 1).then("gift(1, 1)").asks("least(1, 1)", 0);
    }

    static void p22_oneWhoIsNotBoughtIsNone() {
        buyer(999, 100).then("change(1, 0, 0)").refuses("least(1, 1)", NONE);
    }

    static void p22_stayingForFewerMonthsMayCostLess() {
        // In the first month 1 is not yet two ranks below 0.
        people(2, 0, 3).then("seats(0, 1)", "seats(1, 0)", "grudge(1, 0)").asks("least(1, 1)", 0)
                .asks("least(1, 2)", 50);
    }

    // ---- 23: best

    /** One of 0, 1, 2 in rank 1 moves up: by law 0 it is 1, by law 1 it is 2, by law 2 it is 0. */
    private static Edge rivals() {
        return people(0, 1, 1, 1).then("seats(0, 1)", "change(1, 2, 50)", "change(2, 4, 500)");
    }

    static void p23_aPersonThatThereIsNotIsBeyond() {
        court().refusesEach("best(?, 1)", BEYOND, -1, 8, 12, MIN, MAX);
        fresh().refuses("best(0, 1)", BEYOND);
    }

    static void p23_fewerThan1AreBeyond() {
        court().refusesEach("best(0, ?)", BEYOND, 0, -1, MIN);
    }

    static void p23_moreThan60AreBeyond() {
        court().refusesEach("best(0, ?)", BEYOND, 61, MAX);
    }

    static void p23_oneAnd60MonthsMayBeAsked() {
        rivals().asks("best(0, 1)", 2).asks("best(0, 60)", 2).asks("best(1, 1)", 0).asks("best(2, 60)", 1);
    }

    static void p23_ofSeveralTheLeast() {
        rivals().then("change(2, 2, 51)").asks("best(2, 1)", 0);
        rivals().then("change(0, 4, 501)").asks("best(0, 1)", 1);
        people(0, 5).then("law(0, 2)").asks("best(0, 60)", 0);
    }

    static void p23_outByAnyLawIs0() {
        court().asks("best(7, 60)", 0);
    }

    static void p23_rank7IsBetterThanOut() {
        // By laws 0 and 2 he moves up to rank 5, where 2 and 3 turn him out; by law 1 it is 1 and 2 who move up.
        people(0, 7, 7, 7, 7).then("seats(6, 1)", "seats(5, 1)", "seats(4, 0)", "change(0, 2, 40)", "change(1, 4, 300)",
                "change(2, 4, 200)", "grudge(2, 0)", "grudge(3, 0)").asks("best(0, 3)", 1).asks("best(0, 2)", 0);
    }

    static void p23_oneWhoIsOutIsNoState() {
        people(0, 0).then("put(0, -1)").asks("best(0, 1)", 0);
    }

    static void p23_monthWouldBe1000IsState() {
        rivals().late(940).refuses("best(0, 60)", STATE);
        rivals().late(999).refuses("best(0, 1)", STATE);
    }

    static void p23_monthWouldBe999() {
        rivals().late(939).asks("best(0, 60)", 0);
    }

    static void p23_beyondGoesAheadOfState() {
        rivals().late(999).refuses("best(3, 1)", BEYOND).refuses("best(0, 61)", BEYOND);
    }

    // ---- 24: partsFor

    static void p24_fewerThan1AreBeyond() {
        court().refusesEach("partsFor(?)", BEYOND, 0, -1, MIN);
    }

    static void p24_moreThan60AreBeyond() {
        court().refusesEach("partsFor(?)", BEYOND, 61, MAX);
    }

    static void p24_oneAnd60MonthsMayBeAsked() {
        people(0, 0, 2, 2).then("seats(1, 0)", "grudge(1, 0)").asks("partsFor(1)", 1).asks("partsFor(60)", 1);
    }

    static void p24_ofSeveralTheLeast() {
        // Whatever they are, he falls: 1 is enough.
        people(0, 0, 2).then("seats(1, 0)", "grudge(1, 0)").asks("partsFor(60)", 1);
        fresh().asks("partsFor(60)", 1);
    }

    /**
     * 2 falls in the first month if one of so many is enough; else he comes from rank 3 to where he is alone
     * two below two others, both of whom he wants turned out, one by a grudge and one by his age.
     */
    private static Edge partsCourt(int many) {
        Edge run = people(0, 0, 0, 3);
        for (int i = 0; i < many; i++) {
            run.then("person(0, 5)");
        }
        return run.then("seats(0, 2)", "seats(1, 0)", "seats(3, 1)", "seats(4, 0)", "change(2, 0, 5)", "grudge(2, 0)",
                "change(1, 2, 40)", "grudge(3, 2)");
    }

    static void p24_parts2To4MayBeIt() {
        partsCourt(2).asks("partsFor(60)", 2);
        partsCourt(3).asks("partsFor(60)", 3);
        partsCourt(4).asks("partsFor(60)", 4);
    }

    static void p24_monthWouldBe1000IsState() {
        fresh().late(940).refuses("partsFor(60)", STATE);
        fresh().late(999).refuses("partsFor(1)", STATE);
    }

    static void p24_monthWouldBe999() {
        fresh().late(939).asks("partsFor(60)", 1);
    }

    static void p24_beyondGoesAheadOfState() {
        fresh().late(999).refuses("partsFor(0)", BEYOND).refuses("partsFor(61)", BEYOND);
    }

    // ---- 25: kindFor

    static void p25_aPersonThatThereIsNotIsBeyond() {
        court().refusesEach("kindFor(?, 1)", BEYOND, -1, 8, 12, MIN, MAX);
        fresh().refuses("kindFor(0, 1)", BEYOND);
    }

    static void p25_fewerThan1AreBeyond() {
        court().refusesEach("kindFor(0, ?)", BEYOND, 0, -1, MIN);
    }

    static void p25_moreThan60AreBeyond() {
        court().refusesEach("kindFor(0, ?)", BEYOND, 61, MAX);
    }

    static void p25_ofSeveralTheLeast() {
        people(6, 0).asks("kindFor(0, 60)", 0);
    }

    static void p25_oneAnd60MonthsMayBeAsked() {
        people(6, 0, 2).then("seats(0, 1)", "seats(1, 1)").asks("kindFor(1, 1)", 0).asks("kindFor(1, 60)", 3);
    }

    static void p25_theLastKindMayBeIt() {
        // 1 rises if 0 falls, for which all who count two below him must want it: 2 does, 1 must not be asked.
        people(0, 0, 2, 2, 0, 1).then("seats(0, 2)", "seats(1, 1)", "law(1, 1)", "change(1, 2, 50)", "grudge(2, 0)",
                "change(3, 4, 200)").asks("kindFor(1, 1)", 6);
    }

    static void p25_oneWhoIsOutIsNoState() {
        court().asks("kindFor(7, 60)", 0);
    }

    static void p25_monthWouldBe1000IsState() {
        people(0, 0).late(940).refuses("kindFor(0, 60)", STATE);
        people(0, 0).late(999).refuses("kindFor(0, 1)", STATE);
    }

    static void p25_monthWouldBe999() {
        people(0, 0).late(939).asks("kindFor(0, 60)", 0);
    }

    static void p25_beyondGoesAheadOfState() {
        people(0, 0).late(999).refuses("kindFor(1, 1)", BEYOND).refuses("kindFor(0, 61)", BEYOND);
    }
}
