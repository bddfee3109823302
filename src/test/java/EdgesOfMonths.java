/** Boundary cases of promises 17 to 21: months. */
final class EdgesOfMonths extends EdgeWords {
    private EdgesOfMonths() {
    }

    /** 1 in rank 2 turns out 0 in rank 0 at once; nobody can move up. */
    private static Edge prey() {
        return people(0, 0, 2).then("seats(1, 0)", "grudge(1, 0)");
    }

    // ---- 17: months

    static void p17_fewerThan1AreBeyond() {
        court().refusesEach("months(?)", BEYOND, 0, -1, MIN);
    }

    static void p17_moreThan60AreBeyond() {
        court().refusesEach("months(?)", BEYOND, 61, MAX);
    }

    static void p17_oneMonthMayGo() {
        court().asks("count(0)", 1).answers("months(1)", 1).asks("count(0)", 2);
    }

    static void p17_60MonthsMayGo() {
        court().answers("months(60)", 1).asks("count(0)", 61);
    }

    static void p17_monthWouldBe1000IsState() {
        fresh("person(0, 0)").late(959).refuses("months(41)", STATE).asks("count(0)", 959);
    }

    static void p17_monthWouldBe999() {
        fresh("person(0, 0)").late(959).answers("months(40)", 0).asks("count(0)", 999);
    }

    static void p17_inMonth999NoneMoreGoes() {
        fresh("person(0, 0)").late(999).refusesEach("months(?)", STATE, 1, 60);
    }

    static void p17_inMonth998OneMoreGoes() {
        fresh("person(0, 0)").late(998).refuses("months(2)", STATE).answers("months(1)", 0).asks("count(0)", 999);
    }

    static void p17_beyondGoesAheadOfState() {
        fresh().late(999).refuses("months(61)", BEYOND).refuses("months(0)", BEYOND);
    }

    static void p17_monthsGoWithoutPersons() {
        fresh().answers("months(60)", 0).asks("count(0)", 60);
    }

    static void p17_thoseTurnedOutInTheseMonthsAlone() {
        prey().answers("months(1)", 1).answers("months(1)", 0).asks("count(3)", 1);
    }

    // ---- 18: ahead

    static void p18_fewerThan0AreBeyond() {
        court().refusesEach("ahead(?, 0)", BEYOND, -1, MIN);
    }

    static void p18_moreThan120AreBeyond() {
        court().refusesEach("ahead(?, 0)", BEYOND, 121, MAX);
    }

    static void p18_none() {
        prey().asks("ahead(0, 0)", 0).asks("ahead(0, 1)", 0).asks("ahead(0, 2)", 200).asks("ahead(0, 3)", 1)
                .asks("ahead(0, 4)", 0).asks("ahead(0, 5)", 2);
    }

    static void p18_one() {
        prey().asks("ahead(1, 0)", 1).asks("ahead(1, 1)", 1).asks("ahead(1, 2)", 206).asks("ahead(1, 3)", 0)
                .asks("ahead(1, 4)", -1).asks("ahead(1, 5)", 2);
    }

    static void p18_120() {
        prey().asks("ahead(120, 0)", 1).asks("ahead(120, 1)", 1).asks("ahead(120, 2)", 200 + 120 * 6);
    }

    static void p18_whatBelow0IsBeyond() {
        court().refusesEach("ahead(1, ?)", BEYOND, -1, MIN);
    }

    static void p18_4AndAPersonThatThereIsNotIsBeyond() {
        court().refusesEach("ahead(1, ?)", BEYOND, 12, 15, 16, MAX);
        fresh().refuses("ahead(1, 4)", BEYOND);
    }

    static void p18_4AndTheLastPersonMayBeAsked() {
        court().asks("ahead(0, 11)", -1);
        crowd().asks("ahead(0, 15)", 3).refuses("ahead(0, 16)", BEYOND);
    }

    static void p18_withNoPersons() {
        fresh().asks("ahead(120, 0)", 0).asks("ahead(120, 1)", 0).asks("ahead(120, 2)", 0).asks("ahead(120, 3)", 0);
    }

    static void p18_monthWouldBe1000IsState() {
        prey().late(880).refuses("ahead(120, 0)", STATE);
        prey().late(999).refuses("ahead(1, 0)", STATE);
    }

    static void p18_monthWouldBe999() {
        prey().late(879).asks("ahead(120, 0)", 1);
    }

    static void p18_inMonth999NoneAhead() {
        prey().late(999).asks("ahead(0, 0)", 1);
    }

    static void p18_beyondGoesAheadOfState() {
        prey().late(999).refuses("ahead(121, 0)", BEYOND).refuses("ahead(1, 6)", BEYOND);
    }

    static void p18_turnedInThemAlone() {
        prey().then("months(1)").asks("count(3)", 1).asks("ahead(12, 1)", 0);
    }

    static void p18_goldOfAllAlsoOfThoseOut() {
        prey().then("put(0, -1)").asks("ahead(1, 2)", 206);
    }

    // ---- 19: sits

    /** 0 in rank 0 falls as soon as he is as rich as can be: the sly one then wants him, too, and both must. */
    private static Edge growingRich(int months) {
        return people(0, 0, 0, 2, 2).then("seats(0, 2)", "seats(1, 0)", "law(1, 1)", "change(3, 0, 3)", "grudge(2, 0)",
                "change(1, 4, 9999)", "change(0, 4, " + (9999 - 8 * (months - 1)) + ")");
    }

    static void p19_aPersonThatThereIsNotIsBeyond() {
        court().refusesEach("sits(?)", BEYOND, -1, 8, 12, MIN, MAX);
        fresh().refuses("sits(0)", BEYOND);
    }

    static void p19_oneWhoIsOutIsState() {
        court().refuses("sits(7)", STATE);
    }

    static void p19_oneMonth() {
        prey().asks("sits(0)", 1);
    }

    static void p19_120Months() {
        growingRich(120).asks("sits(0)", 120);
    }

    static void p19_121MonthsAreNone() {
        growingRich(121).refuses("sits(0)", NONE);
    }

    static void p19_neverIsNone() {
        people(0, 0).refuses("sits(0)", NONE);
    }

    static void p19_month879MayBe() {
        prey().late(879).then("put(0, 0)").asks("sits(0)", 1).refuses("sits(1)", NONE);
    }

    static void p19_month880IsState() {
        prey().late(880).then("put(0, 0)").refuses("sits(0)", STATE);
    }

    static void p19_month999IsState() {
        prey().late(999).refuses("sits(1)", STATE).refuses("sits(0)", STATE);
    }

    static void p19_beyondGoesAheadOfState() {
        prey().late(880).refuses("sits(2)", BEYOND);
    }

    static void p19_stateGoesAheadOfNone() {
        people(0, 0).late(880).refuses("sits(0)", STATE);
    }

    // ---- 20: rises

    static void p20_aPersonThatThereIsNotIsBeyond() {
        court().refusesEach("rises(?, 1)", BEYOND, -1, 8, 12, MIN, MAX);
        fresh().refuses("rises(0, 0)", BEYOND);
    }

    static void p20_fewerThan0AreBeyond() {
        court().refusesEach("rises(0, ?)", BEYOND, -1, MIN);
    }

    static void p20_moreThan120AreBeyond() {
        court().refusesEach("rises(0, ?)", BEYOND, 121, MAX);
    }

    static void p20_withNoMonthItIsTheRankOfNow() {
        people(0, 5).asks("rises(0, 0)", 5);
    }

    static void p20_eachMonthCounts() {
        people(0, 5).asks("rises(0, 1)", 4).asks("rises(0, 4)", 1).asks("rises(0, 5)", 0).asks("rises(0, 120)", 0);
    }

    static void p20_120MonthsAndTheLastOfThem() {
        // 1 is as rich as 0 can never be before the 120th month: then 0 falls, and 4 takes his seat.
        growingRich(120).then("seats(1, 1)", "person(0, 1)").asks("rises(4, 120)", 0).asks("rises(4, 119)", 1);
    }

    static void p20_nowCountsThoughItFallsAtOnce() {
        prey().asks("rises(0, 120)", 0);
    }

    static void p20_outIsNotCounted() {
        // 1 is one of four two below 0, which is too few; then both move up, and 1 is alone there.
        people(0, 2, 4, 4, 4, 4).then("seats(0, 0)", "seats(2, 1)", "seats(3, 1)", "grudge(1, 0)", "change(1, 2, 40)")
                .asks("ahead(1, 4)", 1).asks("ahead(2, 4)", -1).asks("rises(0, 0)", 2).asks("rises(0, 60)", 1);
    }

    static void p20_outAllTheTimeIsNone() {
        court().refuses("rises(7, 0)", NONE).refuses("rises(7, 120)", NONE);
    }

    static void p20_monthWouldBe1000IsState() {
        people(0, 5).late(880).refuses("rises(0, 120)", STATE);
    }

    static void p20_monthWouldBe999() {
        people(0, 5).late(879).asks("rises(0, 120)", 0);
    }

    static void p20_inMonth999NoneAhead() {
        people(0, 5).late(999).asks("rises(0, 0)", 0).refuses("rises(0, 1)", STATE);
    }

    static void p20_beyondGoesAheadOfState() {
        people(0, 5).late(999).refuses("rises(1, 1)", BEYOND).refuses("rises(0, 121)", BEYOND);
    }

    static void p20_stateGoesAheadOfNone() {
        people(0, 5).late(999).then("put(0, -1)").refuses("rises(0, 1)", STATE).refuses("rises(0, 0)", NONE);
    }

    // ---- 21: worth

    static void p21_aPersonThatThereIsNotIsBeyond() {
        court().refusesEach("worth(?, 0, 1)", BEYOND, -1, 8, 12, MIN, MAX);
        fresh().refuses("worth(0, 0, 1)", BEYOND);
    }

    static void p21_aRankBelow0IsBeyond() {
        court().refusesEach("worth(0, ?, 1)", BEYOND, -1, MIN);
    }

    static void p21_aRankAbove7IsBeyond() {
        court().refusesEach("worth(0, ?, 1)", BEYOND, 8, MAX);
    }

    static void p21_ranks0And7MayBeAsked() {
        people(0, 3).then("seats(6, 0)").asks("worth(0, 0, 1)", 8).asks("worth(0, 7, 1)", 1);
    }

    static void p21_fewerThan1AreBeyond() {
        court().refusesEach("worth(0, 0, ?)", BEYOND, 0, -1, MIN);
    }

    static void p21_moreThan120AreBeyond() {
        court().refusesEach("worth(0, 0, ?)", BEYOND, 121, MAX);
    }

    static void p21_120MonthsMayBeAsked() {
        people(0, 3).asks("worth(0, 0, 120)", 960);
    }

    static void p21_seatsAreNotAsked() {
        people(0, 0, 3).then("seats(0, 1)", "seats(1, 0)", "seats(4, 0)").asks("worth(1, 0, 2)", 16)
                .asks("worth(1, 1, 2)", 14).asks("worth(1, 4, 1)", 5);
    }

    static void p21_itStaysInARankWithMoreThanSeats() {
        people(0, 0, 5, 1, 1).then("seats(0, 1)", "seats(1, 2)").asks("worth(1, 0, 120)", 960)
                .asks("worth(1, 1, 120)", 840);
    }

    static void p21_itMayBeOut() {
        court().asks("worth(7, 6, 1)", 2);
    }

    static void p21_itMayBeInThatRank() {
        people(0, 0).asks("worth(0, 0, 5)", 40);
    }

    static void p21_oneAsRichAsCanBeGainsNothing() {
        people(0, 0).then("change(0, 4, 9999)").asks("worth(0, 0, 120)", 0).then("change(0, 4, 9998)")
                .asks("worth(0, 0, 120)", 1);
    }

    static void p21_oneTurnedOutAtOnceGainsNothing() {
        prey().asks("worth(0, 0, 120)", 0);
    }

    static void p21_monthWouldBe1000IsState() {
        people(0, 0).late(880).refuses("worth(0, 0, 120)", STATE);
        people(0, 0).late(999).refuses("worth(0, 0, 1)", STATE);
    }

    static void p21_monthWouldBe999() {
        people(0, 0).late(879).then("change(0, 4, 0)").asks("worth(0, 0, 120)", 960);
    }

    static void p21_beyondGoesAheadOfState() {
        people(0, 0).late(999).refuses("worth(0, 8, 1)", BEYOND).refuses("worth(0, 0, 0)", BEYOND)
                .refuses("worth(1, 0, 1)", BEYOND);
    }
}
