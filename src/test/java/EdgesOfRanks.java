/** Boundary cases of promises 1 to 11: a new object; ranks, persons. */
final class EdgesOfRanks extends EdgeWords {
    private EdgesOfRanks() {
    }

    // ---- 1: a new object

    static void p01_thereAreNoPersons() {
        fresh().asks("count(1)", 0).asks("count(2)", 0).asks("count(4)", 0).asks("count(5)", 0)
                .refuses("of(0, 0)", BEYOND);
    }

    static void p01_eachRankHas3SeatsAndNobody() {
        Edge run = fresh();
        for (int r = 0; r < 8; r++) {
            run.asks("rankOf(" + r + ", 0)", 3).asks("rankOf(" + r + ", 1)", 0).asks("rankOf(" + r + ", 2)", 0);
        }
    }

    static void p01_lawIs0Parts3Price50() {
        fresh().answers("law(0, 1)", 0).answers("law(1, 1)", 3).answers("law(2, 1)", 50);
    }

    static void p01_monthAndTurnedAre0AndZIs1() {
        fresh().asks("count(0)", 0).asks("count(3)", 0).asks("count(7)", 1);
    }

    static void p01_theTapeIsEmpty() {
        fresh().asks("count(6)", 0).answers("wipe()", 0).answers("text()", -1);
    }

    static void p01_noImageIsKept() {
        fresh().refuses("back()", NONE).answers("tear()", 0);
    }

    static void p01_spotsHoldNothing() {
        fresh().refuses("as(0, 0)", MISSING).refuses("as(9, 6)", MISSING);
    }

    static void p01_sheetsAreMissing() {
        fresh().refuses("write(0, 0, 0)", MISSING).refuses("judge(3)", MISSING);
    }

    static void p01_noFindingIsCounted() {
        Edge run = fresh();
        for (int which = -1; which < 7; which++) {
            run.asks("status(" + which + ")", 0);
        }
    }

    static void p01_nothingIsLeftOfAnotherObject() {
        Edge other = court();
        fresh().asks("count(1)", 0).asks("count(6)", 0).asks("count(7)", 1).asks("status(-1)", 0)
                .asks("rankOf(0, 0)", 3).refuses("back()", NONE).refuses("load(0)", MISSING);
        other.asks("count(1)", 8);
    }

    // ---- 2: seats

    static void p02_ranks0And7MayBeGiven() {
        court().answers("seats(0, 3)", 2).answers("seats(7, 2)", 1).asks("rankOf(0, 0)", 3).asks("rankOf(7, 0)", 2);
    }

    static void p02_aRankBelow0IsBeyond() {
        court().refusesEach("seats(?, 1)", BEYOND, -1, MIN);
    }

    static void p02_aRankAbove7IsBeyond() {
        court().refusesEach("seats(?, 1)", BEYOND, 8, MAX);
    }

    static void p02_seats0And4MayBeGiven() {
        court().answers("seats(6, 0)", 3).answers("seats(6, 4)", 0).asks("rankOf(6, 0)", 4);
    }

    static void p02_seatsBelow0AreBeyond() {
        court().refusesEach("seats(6, ?)", BEYOND, -1, MIN);
    }

    static void p02_seatsAbove4AreBeyond() {
        court().refusesEach("seats(6, ?)", BEYOND, 5, MAX);
    }

    static void p02_theSameAgainIsWhatThereWere() {
        court().asks("seats(6, 3)", 3);
    }

    static void p02_moreInItIsState() {
        people(0, 1, 1).refuses("seats(1, 1)", STATE).refuses("seats(1, 0)", STATE).asks("rankOf(1, 0)", 4);
    }

    static void p02_asManyInItMayBeGiven() {
        people(0, 1, 1).answers("seats(1, 2)", 4).asks("rankOf(1, 0)", 2).refuses("person(0, 1)", STATE);
    }

    static void p02_aHermitIsInItToo() {
        people(6, 1).refuses("seats(1, 0)", STATE).answers("seats(1, 1)", 4);
    }

    static void p02_oneWhoIsOutIsNotInIt() {
        people(0, 1).then("put(0, -1)").answers("seats(1, 0)", 4);
    }

    static void p02_beyondGoesAheadOfState() {
        people(0, 1, 1).refuses("seats(1, -1)", BEYOND);
    }

    // ---- 3: rankOf

    static void p03_aRankBelow0IsBeyond() {
        court().refusesEach("rankOf(?, 0)", BEYOND, -1, MIN);
    }

    static void p03_aRankAbove7IsBeyond() {
        court().refusesEach("rankOf(?, 0)", BEYOND, 8, MAX);
    }

    static void p03_whatBelow0IsBeyond() {
        court().refusesEach("rankOf(0, ?)", BEYOND, -1, MIN);
    }

    static void p03_whatAbove4IsBeyond() {
        court().refusesEach("rankOf(0, ?)", BEYOND, 5, MAX);
    }

    static void p03_ranks0And7MayBeAsked() {
        people(0, 0, 7).asks("rankOf(0, 2)", 1).asks("rankOf(7, 2)", 2).asks("rankOf(7, 4)", 100);
    }

    static void p03_anEmptyRankHasNobodyNoneWhoCountsAndNoGold() {
        fresh("seats(4, 0)").asks("rankOf(4, 0)", 0).asks("rankOf(4, 1)", 0).asks("rankOf(4, 2)", 0)
                .asks("rankOf(4, 3)", 0).asks("rankOf(4, 4)", 0);
    }

    static void p03_aFullRankOfFourWithAllTheGoldThatCanBe() {
        Edge run = people(0, 4, 4, 4, 4);
        for (int p = 0; p < 4; p++) {
            run.then("change(" + p + ", 4, 9999)");
        }
        run.asks("rankOf(4, 1)", 4).asks("rankOf(4, 2)", 15).asks("rankOf(4, 3)", 4).asks("rankOf(4, 4)", 39996);
    }

    static void p03_aHermitIsInItButDoesNotCount() {
        people(6, 4).asks("rankOf(4, 1)", 1).asks("rankOf(4, 2)", 1).asks("rankOf(4, 3)", 0).asks("rankOf(4, 4)", 100);
    }

    static void p03_oneWhoIsOutIsInNone() {
        people(0, 4).then("put(0, -1)").asks("rankOf(4, 1)", 0).asks("rankOf(4, 2)", 0).asks("rankOf(4, 3)", 0)
                .asks("rankOf(4, 4)", 0);
    }

    // ---- 4: law

    static void p04_whatBelow0IsBeyond() {
        court().refusesEach("law(?, 1)", BEYOND, -1, MIN);
    }

    static void p04_whatAbove2IsBeyond() {
        court().refusesEach("law(?, 1)", BEYOND, 3, MAX);
    }

    static void p04_law0And2MayBeGiven() {
        court().answers("law(0, 0)", 1).answers("law(0, 2)", 0).answers("law(0, 2)", 2);
    }

    static void p04_lawBelow0IsBeyond() {
        court().refusesEach("law(0, ?)", BEYOND, -1, MIN);
    }

    static void p04_lawAbove2IsBeyond() {
        court().refusesEach("law(0, ?)", BEYOND, 3, MAX);
    }

    static void p04_parts1And5MayBeGiven() {
        court().answers("law(1, 1)", 2).answers("law(1, 5)", 1).answers("law(1, 5)", 5);
    }

    static void p04_partsBelow1AreBeyond() {
        court().refusesEach("law(1, ?)", BEYOND, 0, -1, MIN);
    }

    static void p04_partsAbove5AreBeyond() {
        court().refusesEach("law(1, ?)", BEYOND, 6, MAX);
    }

    static void p04_price0And999MayBeGiven() {
        court().answers("law(2, 0)", 40).answers("law(2, 999)", 0).answers("law(2, 999)", 999);
    }

    static void p04_priceBelow0IsBeyond() {
        court().refusesEach("law(2, ?)", BEYOND, -1, MIN);
    }

    static void p04_priceAbove999IsBeyond() {
        court().refusesEach("law(2, ?)", BEYOND, 1000, MAX);
    }

    // ---- 5: person

    static void p05_aKindBelow0IsBeyond() {
        court().refusesEach("person(?, 3)", BEYOND, -1, MIN);
    }

    static void p05_aKindAbove6IsBeyond() {
        court().refusesEach("person(?, 3)", BEYOND, 7, MAX);
    }

    static void p05_kinds0And6MayBeGiven() {
        court().answers("person(0, 3)", 8).asks("of(8, 0)", 0).answers("person(6, 3)", 9).asks("of(9, 0)", 6);
    }

    static void p05_aRankBelow0IsBeyond() {
        court().refusesEach("person(0, ?)", BEYOND, -1, MIN);
    }

    static void p05_aRankAbove7IsBeyond() {
        court().refusesEach("person(0, ?)", BEYOND, 8, MAX);
    }

    static void p05_ranks0And7MayBeGiven() {
        court("seats(0, 4)").answers("person(0, 0)", 8).asks("of(8, 1)", 0).answers("person(0, 7)", 9)
                .asks("of(9, 1)", 7);
    }

    static void p05_aRankWithoutSeatsIsState() {
        court().asks("rankOf(5, 0)", 0).refuses("person(0, 5)", STATE);
    }

    static void p05_theLastFreeSeatIsTaken() {
        fresh("person(0, 2)", "person(0, 2)").answers("person(0, 2)", 2).refuses("person(0, 2)", STATE);
    }

    static void p05_aSeatLeftByOneWhoIsOutIsFree() {
        fresh("seats(2, 1)", "person(0, 2)", "put(0, -1)").answers("person(0, 2)", 1);
    }

    static void p05_the12thIsNumber11() {
        crowd().asks("count(1)", 12).asks("of(11, 1)", 3);
    }

    static void p05_the13thIsFull() {
        crowd().refuses("person(0, 7)", FULL).asks("count(1)", 12);
    }

    static void p05_the13thIsFullThoughOneIsOut() {
        crowd().then("put(0, -1)").refuses("person(0, 0)", FULL);
    }

    static void p05_stateGoesAheadOfFull() {
        crowd().then("seats(3, 3)").refuses("person(0, 3)", STATE);
    }

    static void p05_beyondGoesAheadOfStateAndFull() {
        crowd().then("seats(3, 3)").refuses("person(7, 3)", BEYOND).refuses("person(0, 8)", BEYOND);
    }

    // ---- 6: of

    static void p06_aPersonBelow0IsBeyond() {
        court().refusesEach("of(?, 0)", BEYOND, -1, MIN);
    }

    static void p06_aPersonThatThereIsNotIsBeyond() {
        court().refusesEach("of(?, 0)", BEYOND, 8, 11, 12, MAX);
    }

    static void p06_withNoPersonsPerson0IsBeyond() {
        fresh().refuses("of(0, 0)", BEYOND);
    }

    static void p06_theFirstAndTheLastPersonMayBeAsked() {
        court().asks("of(0, 0)", 0).asks("of(7, 1)", -1);
        crowd().asks("of(11, 1)", 3).refuses("of(12, 1)", BEYOND);
    }

    static void p06_whatBelow0IsBeyond() {
        court().refusesEach("of(0, ?)", BEYOND, -1, MIN);
    }

    static void p06_whatAbove6IsBeyond() {
        court().refusesEach("of(0, ?)", BEYOND, 7, MAX);
    }

    static void p06_theRankOfOneWhoIsOutIsMinus1() {
        people(0, 7).then("put(0, -1)").asks("of(0, 1)", -1);
    }

    static void p06_noGrudgeIsMinus1() {
        people(0, 7).asks("of(0, 5)", -1);
    }

    // ---- 7: change

    static void p07_aPersonThatThereIsNotIsBeyond() {
        court().refusesEach("change(?, 0, 0)", BEYOND, -1, 8, 12, MIN, MAX);
        fresh().refuses("change(0, 0, 0)", BEYOND);
    }

    static void p07_rankGrudgeAndGiftCannotBeChanged() {
        court().refusesEach("change(2, ?, 0)", BEYOND, 1, 5, 6);
    }

    static void p07_whatBelow0IsBeyond() {
        court().refusesEach("change(2, ?, 0)", BEYOND, -1, MIN);
    }

    static void p07_whatAbove6IsBeyond() {
        court().refusesEach("change(2, ?, 0)", BEYOND, 7, MAX);
    }

    static void p07_kinds0And6MayBeGiven() {
        court().answers("change(2, 0, 6)", 2).answers("change(2, 0, 0)", 6).asks("of(2, 0)", 0);
    }

    static void p07_anotherKindIsBeyond() {
        court().refusesEach("change(2, 0, ?)", BEYOND, -1, 7, MIN, MAX);
    }

    static void p07_ages0And99MayBeGiven() {
        court().answers("change(0, 2, 0)", 61).answers("change(0, 2, 99)", 0).asks("of(0, 2)", 99);
    }

    static void p07_anotherAgeIsBeyond() {
        court().refusesEach("change(0, 2, ?)", BEYOND, -1, 100, MIN, MAX);
    }

    static void p07_houses0And3MayBeGiven() {
        court().answers("change(1, 3, 3)", 2).answers("change(1, 3, 0)", 3).asks("of(1, 3)", 0);
    }

    static void p07_anotherHouseIsBeyond() {
        court().refusesEach("change(1, 3, ?)", BEYOND, -1, 4, MIN, MAX);
    }

    static void p07_gold0And9999MayBeGiven() {
        people(0, 0).answers("change(0, 4, 9999)", 100).answers("change(0, 4, 0)", 9999).asks("of(0, 4)", 0);
    }

    static void p07_otherGoldIsBeyond() {
        court().refusesEach("change(1, 4, ?)", BEYOND, -1, 10000, MIN, MAX);
    }

    static void p07_theSameAgainChangesNothing() {
        court().asks("change(2, 0, 2)", 2).asks("change(0, 2, 61)", 61).asks("change(1, 3, 2)", 2);
    }

    static void p07_oneWhoIsOutMayBeChanged() {
        court().answers("change(7, 0, 5)", 0).answers("change(7, 2, 1)", 30).asks("of(7, 0)", 5).asks("of(7, 1)", -1);
    }

    static void p07_grudgeAndGiftStayWithAnotherKind() {
        court().then("change(2, 0, 6)").asks("of(2, 5)", 0).asks("of(2, 6)", 10);
    }

    // ---- 8: grudge

    static void p08_aPersonThatThereIsNotIsBeyond() {
        court().refusesEach("grudge(?, 0)", BEYOND, -1, 8, 12, MIN, MAX);
        fresh().refuses("grudge(0, -1)", BEYOND);
    }

    static void p08_anotherOneThatThereIsNotIsBeyond() {
        court().refusesEach("grudge(2, ?)", BEYOND, -2, 8, 12, MIN, MAX);
    }

    static void p08_itselfIsBeyond() {
        court().refuses("grudge(2, 2)", BEYOND).refuses("grudge(0, 0)", BEYOND);
    }

    static void p08_theFirstAndTheLastPersonMayBeGiven() {
        court().answers("grudge(0, 7)", -1).answers("grudge(7, 0)", -1).asks("of(0, 5)", 7).asks("of(7, 5)", 0);
    }

    static void p08_noneMayBeGivenAndTheGiftIs0() {
        court().asks("of(2, 6)", 10).answers("grudge(2, -1)", 0).asks("of(2, 5)", -1).asks("of(2, 6)", 0);
    }

    static void p08_noneBeforeAndThenIsMinus1() {
        court().asks("grudge(0, -1)", -1);
    }

    static void p08_anotherOneMakesTheGift0() {
        court().answers("grudge(2, 1)", 0).asks("of(2, 5)", 1).asks("of(2, 6)", 0);
    }

    static void p08_theSameOneAgainMakesTheGift0() {
        court().answers("grudge(2, 0)", 0).asks("of(2, 5)", 0).asks("of(2, 6)", 0);
    }

    // ---- 9: put

    static void p09_aPersonThatThereIsNotIsBeyond() {
        court().refusesEach("put(?, -1)", BEYOND, -1, 8, 12, MIN, MAX);
        fresh().refuses("put(0, -1)", BEYOND);
    }

    static void p09_aRankBelowMinus1IsBeyond() {
        court().refusesEach("put(7, ?)", BEYOND, -2, MIN);
    }

    static void p09_aRankAbove7IsBeyond() {
        court().refusesEach("put(7, ?)", BEYOND, 8, MAX);
    }

    static void p09_ranks0And7MayBeGiven() {
        court("seats(0, 4)").answers("put(7, 7)", -1).asks("of(7, 1)", 7).answers("put(7, -1)", 7)
                .answers("put(7, 0)", -1).asks("of(7, 1)", 0).answers("put(7, -1)", 0);
    }

    static void p09_oneWhoIsOutAndMinus1IsState() {
        court().refuses("put(7, -1)", STATE);
    }

    static void p09_oneInARankIntoAnotherIsState() {
        court().refuses("put(5, 6)", STATE);
    }

    static void p09_oneInARankIntoItsOwnIsState() {
        people(0, 4).refuses("put(0, 4)", STATE);
    }

    static void p09_noSeatFreeIsState() {
        people(0, 4, 4).then("seats(4, 2)", "put(1, -1)", "person(0, 4)").refuses("put(1, 4)", STATE);
    }

    static void p09_aRankWithoutSeatsIsState() {
        court().refuses("put(7, 5)", STATE);
    }

    static void p09_theLastFreeSeatIsTaken() {
        people(0, 4, 4).then("seats(4, 2)", "put(1, -1)").answers("put(1, 4)", -1).asks("rankOf(4, 2)", 3);
    }

    static void p09_beyondGoesAheadOfState() {
        people(0, 4).refuses("put(0, 8)", BEYOND).refuses("put(1, 4)", BEYOND);
    }

    static void p09_itIsNotCountedAsTurned() {
        people(0, 4).then("put(0, -1)").asks("count(2)", 1).asks("count(3)", 0);
    }

    static void p09_ageGoldGrudgeAndGiftStay() {
        people(2, 4, 6).then("grudge(0, 1)", "gift(0, 30)", "put(0, -1)").asks("of(0, 4)", 130).asks("of(0, 5)", 1)
                .asks("of(0, 6)", 30).asks("of(0, 2)", 30);
    }

    // ---- 10: gift

    /** 1 has a grudge against 0; both have so much gold. */
    private static Edge giver(int gold, int taker) {
        return people(2, 0, 2).then("grudge(1, 0)", "change(0, 4, " + gold + ")", "change(1, 4, " + taker + ")");
    }

    static void p10_aPersonThatThereIsNotIsBeyond() {
        court().refusesEach("gift(?, 1)", BEYOND, -1, 8, 12, MIN, MAX);
        fresh().refuses("gift(0, 1)", BEYOND);
    }

    static void p10_lessThanOneCoinIsBeyond() {
        giver(100, 100).refusesEach("gift(1, ?)", BEYOND, 0, -1, MIN);
    }

    static void p10_moreThan9999CoinsAreBeyond() {
        giver(9999, 0).refusesEach("gift(1, ?)", BEYOND, 10000, MAX);
    }

    static void p10_oneCoinMayBeGiven() {
        giver(1, 9998).answers("gift(1, 1)", 1).asks("of(0, 4)", 0).asks("of(1, 4)", 9999);
    }

    static void p10_9999CoinsMayBeGiven() {
        giver(9999, 0).answers("gift(1, 9999)", 9999).asks("of(0, 4)", 0).asks("of(1, 4)", 9999).asks("of(1, 6)", 9999);
    }

    static void p10_nobodyAsGrudgeIsState() {
        people(2, 0, 2).refuses("gift(1, 1)", STATE);
    }

    static void p10_thatOneHasOneCoinTooFewIsState() {
        giver(29, 0).refuses("gift(1, 30)", STATE);
        giver(0, 0).refuses("gift(1, 1)", STATE);
    }

    static void p10_thatOneHasJustSoMuch() {
        giver(30, 0).answers("gift(1, 30)", 30).asks("of(0, 4)", 0);
    }

    static void p10_thisOneWouldHave10000IsState() {
        giver(100, 9990).refuses("gift(1, 10)", STATE);
        giver(100, 9999).refuses("gift(1, 1)", STATE);
    }

    static void p10_thisOneWouldHaveJust9999() {
        giver(100, 9990).answers("gift(1, 9)", 9).asks("of(1, 4)", 9999);
    }

    static void p10_beyondGoesAheadOfState() {
        people(2, 0, 2).refuses("gift(1, 0)", BEYOND);
    }

    static void p10_giftsAddUpAlsoAbove9999() {
        giver(9999, 0).answers("gift(1, 9999)", 9999).then("change(0, 4, 9999)", "change(1, 4, 0)")
                .answers("gift(1, 9999)", 19998).asks("of(1, 6)", 19998);
    }

    static void p10_thoseWhoAreOutMayGiveAndTake() {
        giver(5, 0).then("put(0, -1)", "put(1, -1)").answers("gift(1, 5)", 5);
    }

    static void p10_anyKindMayTake() {
        for (int kind = 0; kind < 7; kind++) {
            giver(5, 0).then("change(1, 0, " + kind + ")").answers("gift(1, 5)", 5);
        }
    }

    // ---- 11: exchange

    static void p11_aOneThatThereIsNotIsBeyond() {
        court().refusesEach("exchange(?, 0)", BEYOND, -1, 8, 12, MIN, MAX);
        fresh().refuses("exchange(0, 1)", BEYOND);
    }

    static void p11_anOtherThatThereIsNotIsBeyond() {
        court().refusesEach("exchange(0, ?)", BEYOND, -1, 8, 12, MIN, MAX);
    }

    static void p11_oneAndTheSameIsBeyond() {
        court().refuses("exchange(2, 2)", BEYOND);
    }

    static void p11_oneIsOutIsState() {
        court().refuses("exchange(7, 0)", STATE);
    }

    static void p11_theOtherIsOutIsState() {
        court().refuses("exchange(0, 7)", STATE);
    }

    static void p11_bothAreOutIsState() {
        court("put(6, -1)").refuses("exchange(6, 7)", STATE);
    }

    static void p11_beyondGoesAheadOfState() {
        court().refuses("exchange(7, 7)", BEYOND).refuses("exchange(7, 8)", BEYOND);
    }

    static void p11_twoOfOneRankChangeNothing() {
        people(0, 3, 3).asks("exchange(0, 1)", 1);
    }

    static void p11_ranks0And7AndFullOnesToo() {
        people(0, 0, 7).then("seats(0, 1)", "seats(7, 1)").answers("exchange(0, 1)", 1).asks("of(0, 1)", 7)
                .asks("of(1, 1)", 0).asks("rankOf(0, 2)", 2).asks("rankOf(7, 2)", 1).answers("exchange(0, 1)", 1)
                .asks("of(0, 1)", 0);
    }
}
