/** Boundary cases of promises 41 to 45: images, count, status. */
final class EdgesOfImages extends EdgeWords {
    private EdgesOfImages() {
    }

    // ---- 41: image

    static void p41_ofANewObject() {
        fresh().answers("image()", 1).then("person(0, 0)", "months(3)", "law(0, 2)", "seats(0, 1)", "seed(9)")
                .answers("back()", 0).asks("count(1)", 0).asks("rankOf(0, 0)", 3).asks("count(7)", 1)
                .answers("law(0, 0)", 0);
    }

    static void p41_nothingElseChanges() {
        court("tear()", "image()").asks("image()", 1);
    }

    static void p41_theLatestIsKept() {
        fresh("image()", "months(1)", "image()", "months(1)").answers("back()", 1);
    }

    static void p41_eachThingIsKept() {
        Edge run = people(2, 0, 2, 4).then("law(0, 1)", "law(1, 2)", "law(2, 3)", "grudge(1, 0)", "gift(1, 3)",
                "hold(4, 2)", "seed(77)", "months(1)", "seats(7, 2)");
        run.answers("image()", 1);
        run.then("seats(7, 0)", "law(0, 2)", "law(1, 5)", "law(2, 500)", "person(3, 6)", "hold(4, -1)", "hold(5, 0)",
                "rumours(5)", "grudge(1, 2)", "change(0, 0, 1)", "change(0, 2, 1)", "change(0, 3, 1)", "change(0, 4, 1)",
                "put(2, -1)", "months(13)").answers("back()", 1);
        run.asks("rankOf(7, 0)", 2).answers("law(0, 0)", 1).answers("law(1, 1)", 2).answers("law(2, 1)", 3);
        run.asks("count(1)", 3).asks("as(4, 0)", 2).refuses("as(5, 0)", MISSING).asks("count(7)", 77);
        run.asks("of(1, 5)", 0).asks("of(1, 6)", 3).asks("of(0, 0)", 2).asks("of(0, 2)", 30).asks("of(0, 3)", 0)
                .asks("of(0, 4)", 105).asks("of(2, 1)", 3).asks("count(3)", 0).asks("count(0)", 1);
    }

    static void p41_turnedIsKept() {
        people(0, 0, 2, 5).then("seats(1, 0)", "grudge(1, 0)", "months(1)", "image()", "put(0, 0)", "months(1)")
                .asks("count(3)", 2).answers("back()", 1).asks("count(3)", 1);
    }

    static void p41_ofMonth999() {
        fresh().late(999).then("image()").answers("back()", 999);
    }

    static void p41_of12Persons() {
        crowd().then("image()", "grudge(11, 0)", "put(11, -1)").answers("back()", 0).asks("of(11, 1)", 3)
                .asks("of(11, 5)", -1);
    }

    static void p41_allOfThe12thPersonIsKept() {
        Edge run = crowd().then("change(11, 0, 2)", "change(11, 2, 77)", "change(11, 3, 3)", "change(11, 4, 4321)",
                "grudge(11, 10)", "gift(11, 9)", "image()");
        run.then("change(11, 0, 5)", "change(11, 2, 1)", "change(11, 3, 1)", "change(11, 4, 1)", "grudge(11, 9)",
                "put(11, -1)").answers("back()", 0);
        int[] kept = {2, 3, 77, 3, 4330, 10, 9};
        for (int what = 0; what < kept.length; what++) {
            run.asks("of(11, " + what + ")", kept[what]);
        }
    }

    static void p41_theFirstAndTheLastSpotAreKept() {
        crowd().then("hold(0, 11)", "hold(9, 4)", "image()", "hold(0, 1)", "hold(9, -1)").answers("back()", 0)
                .asks("as(0, 0)", 11).asks("as(9, 0)", 4);
    }

    static void p41_theFirstAndTheLastRanksSeatsAreKept() {
        fresh("seats(0, 1)", "seats(7, 4)", "image()", "seats(0, 2)", "seats(7, 0)").answers("back()", 0)
                .asks("rankOf(0, 0)", 1).asks("rankOf(7, 0)", 4);
    }

    // ---- 42: back

    static void p42_nothingIsKeptIsNone() {
        fresh().refuses("back()", NONE);
        court("tear()").refuses("back()", NONE);
    }

    static void p42_whatWasKeptStays() {
        fresh("image()", "months(5)").answers("back()", 0).then("months(7)").answers("back()", 0);
    }

    static void p42_rightBehindTheImageNothingChanges() {
        court("image()").asks("back()", 1);
    }

    static void p42_theTapeStays() {
        fresh("image()").tape("law 2").answers("back()", 0).asks("count(6)", 5).answers("text()", 1);
        fresh().tape("law 2").then("image()", "wipe()").answers("back()", 0).asks("count(6)", 0);
    }

    static void p42_theSheetsStay() {
        fresh("image()", "sheet(0, 8, 2)").answers("back()", 0).asks("load(0)", 0);
        fresh("sheet(0, 8, 2)", "image()", "sheet(0, 0, 0)").answers("back()", 0).refuses("load(0)", MISSING);
        people(0, 0, 0).then("sheet(0, 8, 1)", "write(0, 0, -1)", "image()", "write(0, 0, 1)").answers("back()", 0)
                .answers("load(0)", 1).asks("of(0, 5)", 1);
    }

    static void p42_noFindingIsTakenBack() {
        fresh("image()").refuses("heir(0)", NONE).answers("back()", 0).asks("status(3)", 1);
    }

    static void p42_personsWhoCameLaterAreGone() {
        fresh("person(0, 0)", "image()", "person(1, 1)", "hold(0, 1)", "grudge(0, 1)").answers("back()", 0)
                .refuses("of(1, 0)", BEYOND).refuses("as(0, 0)", MISSING).asks("of(0, 5)", -1)
                .answers("person(2, 2)", 1).asks("of(1, 2)", 30).asks("of(1, 5)", -1);
    }

    static void p42_whatComesLaterDoesNotReachWhatIsKept() {
        fresh("person(0, 0)", "image()").answers("back()", 0).then("change(0, 4, 1)", "seats(7, 0)")
                .answers("back()", 0).asks("of(0, 4)", 100).asks("rankOf(7, 0)", 3);
    }

    // ---- 43: tear

    static void p43_nothingWasKept() {
        fresh().asks("tear()", 0);
    }

    static void p43_somethingWasKept() {
        fresh("image()").answers("tear()", 1).asks("tear()", 0).refuses("back()", NONE);
    }

    static void p43_ofTwoImagesNoneIsLeft() {
        fresh("image()", "months(1)", "image()").answers("tear()", 1).refuses("back()", NONE);
    }

    static void p43_theEmpireStays() {
        court().answers("tear()", 1).asks("count(0)", 1).asks("count(1)", 8).asks("of(2, 6)", 10);
    }

    static void p43_anotherImageMayBeKept() {
        fresh("image()", "tear()", "months(4)", "image()", "months(1)").answers("back()", 4).answers("tear()", 1);
    }

    static void p43_backLeavesSomethingToTear() {
        fresh("image()", "back()").answers("tear()", 1);
    }

    // ---- 44: count

    static void p44_whatBelow0IsBeyond() {
        court().refusesEach("count(?)", BEYOND, -1, MIN);
    }

    static void p44_whatAbove7IsBeyond() {
        court().refusesEach("count(?)", BEYOND, 8, MAX);
    }

    static void p44_nothingAtFirst() {
        Edge run = fresh();
        for (int what = 0; what < 8; what++) {
            run.asks("count(" + what + ")", what == 7 ? 1 : 0);
        }
    }

    static void p44_month999() {
        fresh().late(999).asks("count(0)", 999);
    }

    static void p44_12PersonsAllOutWithAllTheGold() {
        Edge run = crowd();
        for (int p = 0; p < 12; p++) {
            run.then("put(" + p + ", -1)", "change(" + p + ", 4, 9999)", "grudge(" + p + ", " + (p + 1) % 12 + ")");
        }
        run.asks("count(1)", 12).asks("count(2)", 12).asks("count(4)", 12 * 9999).asks("count(5)", 12);
    }

    static void p44_noneIsNoGrudge() {
        people(0, 0, 0).then("grudge(0, 1)", "grudge(1, 0)").asks("count(5)", 2).then("grudge(0, -1)")
                .asks("count(5)", 1);
    }

    static void p44_aGrudgeOfOneWhoIsOutIsOne() {
        people(0, 0, 0).then("grudge(0, 1)", "put(0, -1)").asks("count(5)", 1);
    }

    static void p44_aTapeOf120Bytes() {
        fresh().tape(row('a', 120)).asks("count(6)", 120);
    }

    static void p44_anyZ() {
        fresh("seed(MIN)").asks("count(7)", MIN).then("seed(MAX)").asks("count(7)", MAX);
    }

    static void p44_aZAsLowAsAFindingIsNotCounted() {
        fresh().answers("seed(-1000001)", 1).asks("count(7)", -1000001).asks("status(-1)", 0).asks("status(0)", 0);
    }

    // ---- 45: status

    static void p45_whichBelowMinus1IsBeyond() {
        court().refusesEach("status(?)", BEYOND, -2, MIN);
    }

    static void p45_whichAbove6IsBeyond() {
        court().refusesEach("status(?)", BEYOND, 7, MAX);
    }

    static void p45_anotherOneIsCountedFromThenOn() {
        fresh().answers("status(7)", BEYOND).asks("status(0)", 1).asks("status(-1)", 1).answers("status(-2)", BEYOND)
                .asks("status(0)", 2).asks("status(-1)", 2);
    }

    static void p45_eachSortIsCountedByItself() {
        // The court has had one of each sort but FULL.
        Edge run = court();
        int[] now = {1, 0, 1, 1, 1, 1, 1};
        for (int which = 0; which < 7; which++) {
            run.asks("status(" + which + ")", now[which]);
        }
        run.asks("status(-1)", 6);
    }

    static void p45_moreThanOneOfASort() {
        fresh().refuses("back()", NONE).refuses("back()", NONE).refuses("heir(0)", NONE).asks("status(3)", 3)
                .asks("status(-1)", 3);
    }

    static void p45_backTakesNoneBack() {
        fresh().refuses("heir(0)", NONE).then("image()").refuses("heir(1)", NONE).refuses("load(0)", MISSING)
                .answers("back()", 0).asks("status(3)", 2).asks("status(5)", 1).asks("status(-1)", 3);
    }

    static void p45_aFaultOfATextIsNoFinding() {
        fresh().faults("law 9", 4).asks("status(-1)", 0);
    }

    static void p45_minus1AsAnAnswerIsNoFinding() {
        people(0, 0).then("put(0, -1)").asks("of(0, 1)", -1).asks("of(0, 5)", -1).asks("status(-1)", 0);
    }
}
