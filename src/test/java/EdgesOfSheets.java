/** Boundary cases of promises 34 to 40: spots, sheets. */
final class EdgesOfSheets extends EdgeWords {
    private EdgesOfSheets() {
    }

    /** A sheet with these numbers. */
    private static Edge fill(Edge run, int s, int bits, int... numbers) {
        run.then("sheet(" + s + ", " + bits + ", " + numbers.length + ")");
        for (int i = 0; i < numbers.length; i++) {
            run.then("write(" + s + ", " + i + ", " + numbers[i] + ")");
        }
        return run;
    }

    /** Just these come as grudges of 0, 1, .. from a sheet. */
    private static Edge holds(Edge run, int s, int... numbers) {
        run.answers("load(" + s + ")", numbers.length);
        for (int p = 0; p < numbers.length; p++) {
            run.asks("of(" + p + ", 5)", numbers[p]);
        }
        return run;
    }

    // ---- 34: hold

    static void p34_spotsBelow0AreBeyond() {
        court().refusesEach("hold(?, 0)", BEYOND, -1, MIN);
    }

    static void p34_spotsAbove9AreBeyond() {
        court().refusesEach("hold(?, 0)", BEYOND, 10, MAX);
    }

    static void p34_spots0And9MayBeGiven() {
        court().answers("hold(0, 4)", 1).asks("as(0, 0)", 4).answers("hold(9, 5)", 1).asks("as(9, 0)", 5);
    }

    static void p34_aPersonThatThereIsNotIsBeyond() {
        court().refusesEach("hold(0, ?)", BEYOND, -2, 8, 12, MIN, MAX);
        fresh().refuses("hold(0, 0)", BEYOND);
    }

    static void p34_theFirstAndTheLastPersonMayBeHeld() {
        court().answers("hold(0, 0)", 1).asks("as(0, 0)", 0).answers("hold(0, 7)", 1).asks("as(0, 0)", 7);
        crowd().answers("hold(0, 11)", 1).asks("as(0, 0)", 11);
    }

    static void p34_nothingMayBeHeld() {
        court().answers("hold(0, -1)", 1).refuses("as(0, 0)", MISSING);
        fresh().asks("hold(0, -1)", 1);
    }

    static void p34_twoSpotsMayHoldOnePerson() {
        court().then("hold(1, 2)", "hold(2, 2)").asks("as(1, 0)", 2).asks("as(2, 0)", 2);
    }

    // ---- 35: as

    static void p35_spotsBelow0AreBeyond() {
        court().refusesEach("as(?, 0)", BEYOND, -1, MIN);
    }

    static void p35_spotsAbove9AreBeyond() {
        court().refusesEach("as(?, 0)", BEYOND, 10, MAX);
    }

    static void p35_kindsBelow0AreBeyond() {
        court().refusesEach("as(0, ?)", BEYOND, -1, MIN);
    }

    static void p35_kindsAbove6AreBeyond() {
        court().refusesEach("as(0, ?)", BEYOND, 7, MAX);
    }

    static void p35_aSpotWithNothingIsMissing() {
        court().refuses("as(5, 0)", MISSING).refuses("as(5, 6)", MISSING);
    }

    static void p35_beyondGoesAheadOfMissing() {
        court().refuses("as(5, 7)", BEYOND);
    }

    static void p35_missingGoesAheadOfKind() {
        court("hold(0, -1)").refuses("as(0, 4)", MISSING);
    }

    static void p35_eachKindAsEachKind() {
        int[][] above = {{0}, {0, 1}, {0, 2}, {0, 2, 3}, {0, 1, 4}, {0, 5}, {0, 1, 6}};
        for (int kind = 0; kind < 7; kind++) {
            Edge run = fresh("person(" + kind + ", 0)", "hold(0, 0)");
            for (int wanted = 0; wanted < 7; wanted++) {
                int w = wanted;
                if (java.util.Arrays.stream(above[kind]).anyMatch(a -> a == w)) {
                    run.asks("as(0, " + wanted + ")", 0);
                } else {
                    run.refuses("as(0, " + wanted + ")", KIND);
                }
            }
        }
    }

    static void p35_theKindIsThatOfNow() {
        fresh("person(4, 0)", "hold(0, 0)").asks("as(0, 1)", 0).then("change(0, 0, 3)").refuses("as(0, 1)", KIND)
                .asks("as(0, 2)", 0);
    }

    static void p35_oneWhoIsOutIsHeldToo() {
        court().asks("as(9, 0)", 7).asks("of(7, 1)", -1);
    }

    // ---- 36: sheet

    static void p36_sheetsBelow0AreBeyond() {
        court().refusesEach("sheet(?, 8, 1)", BEYOND, -1, MIN);
    }

    static void p36_sheetsAbove3AreBeyond() {
        court().refusesEach("sheet(?, 8, 1)", BEYOND, 4, MAX);
    }

    static void p36_sheets0And3MayBeGiven() {
        court().answers("sheet(0, 8, 2)", 2).answers("sheet(3, 8, 2)", 2).answers("write(3, 1, 1)", 1);
    }

    static void p36_otherBitsAreBeyond() {
        court().refusesEach("sheet(0, ?, 1)", BEYOND, -1, 1, 7, 9, 15, 17, 24, 31, 33, 64, -8, MIN, MAX);
    }

    static void p36_8And16And32BitsMayBeGiven() {
        court().answers("sheet(0, 8, 1)", 1).answers("sheet(0, 16, 2)", 2).answers("sheet(0, 32, 3)", 3);
    }

    static void p36_nBelow0IsSize() {
        court().refusesEach("sheet(0, 8, ?)", SIZE, -1, MIN);
    }

    static void p36_nBelow0IsSizeAlsoWithBits0() {
        court().refusesEach("sheet(0, 0, ?)", SIZE, -1, MIN);
    }

    static void p36_nAbove40IsBeyond() {
        court().refusesEach("sheet(0, 8, ?)", BEYOND, 41, MAX);
    }

    static void p36_nAbove40IsBeyondAlsoWithBits0() {
        court().refusesEach("sheet(0, 0, ?)", BEYOND, 41, MAX);
    }

    static void p36_beyondGoesAheadOfSize() {
        court().refuses("sheet(4, 8, -1)", BEYOND).refuses("sheet(0, 9, -1)", BEYOND).refuses("sheet(-1, 0, -1)", BEYOND);
    }

    static void p36_noNumbersIsNotMissing() {
        fresh().answers("sheet(0, 8, 0)", 0).asks("load(0)", 0).asks("judge(0)", 0).asks("copy(0, 0, 0, 0, 0)", 0)
                .refuses("write(0, 0, 0)", BEYOND);
    }

    static void p36_40Numbers() {
        fresh().answers("sheet(0, 8, 40)", 40).answers("write(0, 39, 1)", 1).refuses("write(0, 40, 1)", BEYOND);
    }

    static void p36_theLastOf40NumbersIs0Anew() {
        crowd().then("sheet(0, 8, 40)", "write(0, 39, 7)", "sheet(0, 8, 40)", "copy(0, 39, 0, 1, 1)", "write(0, 0, -1)")
                .answers("load(0)", 12).asks("of(1, 5)", 0);
        crowd().then("sheet(0, 8, 40)", "write(0, 39, 7)", "sheet(0, 0, 0)", "sheet(0, 8, 40)", "copy(0, 39, 0, 1, 1)",
                "write(0, 0, -1)").answers("load(0)", 12).asks("of(1, 5)", 0);
    }

    static void p36_bits0MakesItMissingAndAnswers0() {
        court().answers("sheet(0, 0, 40)", 0).refuses("load(0)", MISSING).answers("sheet(1, 0, 0)", 0)
                .refuses("load(1)", MISSING);
        fresh().asks("sheet(0, 0, 7)", 0);
    }

    static void p36_allNumbersAre0Anew() {
        Edge run = fill(crowd(), 0, 8, 1, 2, 3);
        holds(run.then("sheet(0, 8, 3)"), 0);
        fill(crowd(), 0, 8, 1, 2, 3).then("sheet(0, 0, 0)", "sheet(0, 8, 3)").asks("load(0)", 0);
        // 0 is no other person for 0, but is for the next ones.
        holds(fill(crowd(), 0, 8, 1, 2, 3).then("sheet(0, 16, 4)", "write(0, 0, 7)"), 0, 7, 0, 0, 0);
    }

    // ---- 37: write

    static void p37_sheetsBelow0AreBeyond() {
        court().refusesEach("write(?, 0, 1)", BEYOND, -1, MIN);
    }

    static void p37_sheetsAbove3AreBeyond() {
        court().refusesEach("write(?, 0, 1)", BEYOND, 4, MAX);
    }

    static void p37_aMissingSheet() {
        court().refuses("write(3, 0, 1)", MISSING);
    }

    static void p37_missingGoesAheadOfNoSuchNumber() {
        court().refusesEach("write(3, ?, 1)", MISSING, -1, 40, MIN, MAX);
    }

    static void p37_aNumberBelow0IsBeyond() {
        court().refusesEach("write(0, ?, 1)", BEYOND, -1, MIN);
    }

    static void p37_aNumberBehindTheLastIsBeyond() {
        court().refusesEach("write(0, ?, 1)", BEYOND, 5, 39, 40, MAX);
    }

    static void p37_theFirstAndTheLastNumber() {
        holds(fill(crowd(), 0, 8, 1, 2, 3).then("write(0, 0, 9)", "write(0, 2, 11)"), 0, 9, 2, 11);
    }

    static void p37_8BitsAreCutAndToldWithTheirSign() {
        holds(fill(crowd(), 0, 8, 255, 256, 259, 511, 512 + 11), 0, -1, 0, 3, -1, 11);
        annals(8, 120, 120).asks("judge(0)", 0);
        annals(8, 120, 120 + 256).asks("judge(0)", 0);
        annals(8, 120, 120 - 256).asks("judge(0)", 0);
    }

    static void p37_8Bits128IsBelow0() {
        annals(8, 128, 128).asks("judge(0)", 1);
        annals(8, 128, -128).asks("judge(0)", 1);
    }

    static void p37_16BitsAreCutAndToldWithTheirSign() {
        holds(fill(crowd(), 0, 16, 65535, 65536, 65539, 131071, 131072 + 11), 0, -1, 0, 3, -1, 11);
        holds(fill(crowd(), 0, 16, 255), 0);
        annals(16, 128, 128).asks("judge(0)", 0);
        annals(16, 3840, 3840).asks("judge(0)", 0);
        annals(16, 3840, 3840 + 65536).asks("judge(0)", 0);
        annals(16, 3840, 3840 + 32768).asks("judge(0)", 1);
    }

    static void p37_32BitsAreNotCut() {
        holds(fill(crowd(), 0, 32, -1, 0, 65536), 0, -1, 0);
        holds(fill(crowd(), 0, 32, 65535), 0);
        annals(32, 3840, 3840).asks("judge(0)", 0);
        annals(32, 3840, 3840 + 65536).asks("judge(0)", 1);
        annals(32, 3840, 3840 + MIN).asks("judge(0)", 1);
    }

    /** Twelve persons of whom just those of a set (of four at most) are in rank 0 for ever, and a sheet of one number. */
    private static Edge annals(int bits, int set, int number) {
        int[] ranks = new int[12];
        int others = 0;
        for (int p = 0; p < 12; p++) {
            boolean isIn = (set >> p & 1) != 0;
            ranks[p] = isIn ? 0 : 2 + others / 4;
            others += isIn ? 0 : 1;
        }
        return fill(people(0, ranks).then("seats(1, 0)"), 0, bits, number);
    }

    // ---- 38: copy

    static void p38_aSheetThatThereIsNotIsBeyond() {
        court().refusesEach("copy(?, 0, 0, 0, 1)", BEYOND, -1, 4, MIN, MAX);
    }

    static void p38_anotherSheetThatThereIsNotIsBeyond() {
        court().refusesEach("copy(0, 0, ?, 0, 1)", BEYOND, -1, 4, MIN, MAX);
    }

    static void p38_oneIsMissing() {
        court().refuses("copy(3, 0, 0, 0, 1)", MISSING).refuses("copy(0, 0, 3, 0, 1)", MISSING)
                .refuses("copy(3, 0, 3, 0, 0)", MISSING);
    }

    static void p38_beyondGoesAheadOfMissing() {
        court().refuses("copy(3, 0, 4, 0, 1)", BEYOND).refuses("copy(-1, 0, 3, 0, 1)", BEYOND);
    }

    static void p38_missingGoesAheadOfKindAndOfNoSuchNumbers() {
        court().refuses("copy(3, -1, 0, 99, -1)", MISSING).refuses("copy(0, -1, 3, 99, -1)", MISSING);
    }

    static void p38_otherBitsAreKind() {
        court().refuses("copy(0, 0, 1, 0, 1)", KIND).refuses("copy(1, 0, 2, 0, 1)", KIND)
                .refuses("copy(2, 0, 0, 0, 0)", KIND);
    }

    static void p38_kindGoesAheadOfNoSuchNumbers() {
        court().refuses("copy(0, -1, 1, 0, 99)", KIND);
    }

    static void p38_fromBelow0IsBeyond() {
        court().refusesEach("copy(0, ?, 0, 0, 1)", BEYOND, -1, MIN).refuses("copy(0, -1, 0, 0, 0)", BEYOND);
    }

    static void p38_toBelow0IsBeyond() {
        court().refusesEach("copy(0, 0, 0, ?, 1)", BEYOND, -1, MIN).refuses("copy(0, 0, 0, -1, 0)", BEYOND);
    }

    static void p38_nBelow0IsBeyond() {
        court().refusesEach("copy(0, 2, 0, 2, ?)", BEYOND, -1, MIN);
    }

    static void p38_oneHasNotSoMany() {
        court().refuses("copy(0, 0, 0, 0, 6)", BEYOND).refuses("copy(0, 1, 0, 0, 5)", BEYOND)
                .refuses("copy(0, 5, 0, 0, 1)", BEYOND).refuses("copy(0, MAX, 0, 0, 1)", BEYOND);
    }

    static void p38_theOtherHasNotSoMany() {
        court().refuses("copy(0, 0, 0, 1, 5)", BEYOND).refuses("copy(0, 0, 0, 5, 1)", BEYOND)
                .refuses("copy(0, 0, 0, MAX, 1)", BEYOND);
        fill(fill(crowd(), 0, 8, 1, 2, 3), 1, 8, 4, 5).refuses("copy(0, 0, 1, 0, 3)", BEYOND)
                .refuses("copy(1, 0, 0, 0, 3)", BEYOND);
    }

    static void p38_sumsAboveAnyIntAreBeyond() {
        court().refuses("copy(0, MAX, 0, 0, MAX)", BEYOND).refuses("copy(0, 1, 0, 1, MAX)", BEYOND)
                .refuses("copy(0, 0, 0, MAX, MAX)", BEYOND).refuses("copy(0, MIN, 0, MIN, MIN)", BEYOND);
    }

    static void p38_noNumbers() {
        court().asks("copy(0, 0, 0, 0, 0)", 0).asks("copy(0, 4, 0, 2, 0)", 0);
    }

    static void p38_noNumbersJustBehindTheLast() {
        court().asks("copy(0, 5, 0, 0, 0)", 0).asks("copy(0, 0, 0, 5, 0)", 0).asks("copy(0, 5, 0, 5, 0)", 0);
    }

    static void p38_noNumbersFartherBehindTheLastAreBeyond() {
        court().refuses("copy(0, 6, 0, 0, 0)", BEYOND).refuses("copy(0, 0, 0, 6, 0)", BEYOND)
                .refuses("copy(0, MAX, 0, 0, 0)", BEYOND);
    }

    static void p38_noNumbersOfAnEmptySheet() {
        fresh("sheet(0, 8, 0)").asks("copy(0, 0, 0, 0, 0)", 0).refuses("copy(0, 1, 0, 0, 0)", BEYOND)
                .refuses("copy(0, 0, 0, 0, 1)", BEYOND);
    }

    static void p38_justOne() {
        holds(fill(fill(crowd(), 0, 8, 1, 2, 3), 1, 8, 4, 5, 6).answers("copy(0, 2, 1, 0, 1)", 1), 1, 3, 5, 6);
    }

    static void p38_all() {
        holds(fill(fill(crowd(), 0, 8, 1, 2, 3), 1, 8, 4, 5, 6).answers("copy(0, 0, 1, 0, 3)", 3), 1, 1, 2, 3);
    }

    static void p38_40Numbers() {
        Edge run = crowd().then("sheet(0, 32, 40)", "sheet(1, 32, 40)", "write(0, 0, 5)", "write(0, 39, 6)");
        holds(run.answers("copy(0, 0, 1, 0, 40)", 40).answers("copy(1, 39, 1, 1, 1)", 1), 1, 5, 6, 0, 0, 0, 0, 0, 0, 0, 0,
                0, 0);
    }

    static void p38_theSheetItselfStays() {
        holds(fill(fill(crowd(), 0, 8, 1, 2, 3), 1, 8, 4, 5, 6).then("copy(0, 0, 1, 0, 3)"), 0, 1, 2, 3);
    }

    static void p38_ontoItselfFartherBehindAsTheyAllWere() {
        holds(fill(crowd(), 0, 32, 4, 5, 1, 0, 2).answers("copy(0, 0, 0, 1, 3)", 3), 0, 4, 4, 5, 1, 2);
    }

    static void p38_ontoItselfFartherAheadAsTheyAllWere() {
        holds(fill(crowd(), 0, 32, 9, 3, 4, 5, 1).answers("copy(0, 1, 0, 0, 4)", 4), 0, 3, 4, 5, 1, 1);
    }

    static void p38_ontoItsOwnPlace() {
        court().asks("copy(0, 0, 0, 0, 5)", 5).asks("copy(0, 1, 0, 1, 3)", 3);
    }

    static void p38_negativeNumbersComeWithTheirSign() {
        holds(fill(fill(crowd(), 0, 8, 255, 255), 1, 8, 1, 2).then("copy(0, 0, 1, 0, 2)"), 1, -1, -1);
    }

    // ---- 39: load

    static void p39_aSheetThatThereIsNotIsBeyond() {
        court().refusesEach("load(?)", BEYOND, -1, 4, MIN, MAX);
    }

    static void p39_aMissingSheet() {
        court().refuses("load(3)", MISSING);
    }

    static void p39_noNumbers() {
        people(0, 0, 1).then("sheet(0, 8, 0)").asks("load(0)", 0);
    }

    static void p39_noPersons() {
        fresh("sheet(0, 8, 3)", "write(0, 0, -1)").asks("load(0)", 0);
    }

    static void p39_fewerNumbersThanPersons() {
        fill(people(0, 0, 1, 2).then("grudge(2, 0)"), 0, 8, 1, 0).answers("load(0)", 2).asks("of(0, 5)", 1)
                .asks("of(1, 5)", 0).asks("of(2, 5)", 0);
    }

    static void p39_moreNumbersThanPersons() {
        fill(people(0, 0, 1), 0, 8, 1, 0, 0, 1).answers("load(0)", 2).asks("count(5)", 2);
    }

    static void p39_all12() {
        holds(fill(crowd(), 0, 8, 11, 10, 9, 8, 7, 6, 5, 4, 3, 2, 1, 0), 0, 11, 10, 9, 8, 7, 6, 5, 4, 3, 2, 1, 0);
    }

    static void p39_minus1IsNone() {
        fill(people(2, 0, 1).then("grudge(0, 1)", "gift(0, 5)"), 0, 8, -1).answers("load(0)", 1).asks("of(0, 5)", -1)
                .asks("of(0, 6)", 0);
    }

    static void p39_itEndsAtItself() {
        fill(people(0, 0, 1, 2), 0, 8, 1, 1, 0).answers("load(0)", 1).asks("of(1, 5)", -1).asks("of(2, 5)", -1);
        fill(people(0, 0, 1, 2), 0, 8, 0, 0, 0).asks("load(0)", 0);
    }

    static void p39_itEndsAtAPersonThatThereIsNot() {
        fill(people(0, 0, 1, 2), 0, 32, 1, 3, 0).answers("load(0)", 1).asks("of(2, 5)", -1);
        fill(people(0, 0, 1, 2), 0, 32, MAX).asks("load(0)", 0);
    }

    static void p39_itEndsBelowMinus1() {
        fill(people(0, 0, 1, 2), 0, 32, 1, -2, 0).answers("load(0)", 1).asks("of(2, 5)", -1);
        fill(people(0, 0, 1, 2), 0, 32, MIN).asks("load(0)", 0);
    }

    static void p39_theLastPersonThatThereIs() {
        fill(people(0, 0, 1, 2), 0, 8, 2).answers("load(0)", 1).asks("of(0, 5)", 2);
    }

    static void p39_theGiftIs0AlsoWithTheSameGrudge() {
        fill(people(2, 0, 1).then("grudge(0, 1)", "gift(0, 5)"), 0, 8, 1).answers("load(0)", 1).asks("of(0, 5)", 1)
                .asks("of(0, 6)", 0);
    }

    static void p39_thoseBehindTheEndKeepGrudgeAndGift() {
        fill(people(2, 0, 1, 2).then("grudge(1, 0)", "gift(1, 5)"), 0, 8, 2, 1).answers("load(0)", 1)
                .asks("of(1, 5)", 0).asks("of(1, 6)", 5);
    }

    // ---- 40: judge

    static void p40_aSheetThatThereIsNotIsBeyond() {
        court().refusesEach("judge(?)", BEYOND, -1, 4, MIN, MAX);
    }

    static void p40_aMissingSheet() {
        court().refuses("judge(3)", MISSING);
    }

    static void p40_noNumbersAre0() {
        court("sheet(0, 8, 0)").asks("judge(0)", 0);
        fresh("sheet(0, 8, 0)").late(999).asks("judge(0)", 0);
    }

    /** 1 turns out 0; then 1, 2, 3 come by rank 1 to rank 0: nobody, and from then on these. */
    private static Edge fallen(int... numbers) {
        return fill(people(0, 0, 2, 2, 2).then("grudge(1, 0)"), 0, 8, numbers);
    }

    static void p40_allAre() {
        fallen(0).asks("judge(0)", 0);
        fallen(0, 14, 14).asks("judge(0)", 0);
    }

    static void p40_theFirstIsNot() {
        fallen(1, 14, 14).asks("judge(0)", 1);
        fallen(14).asks("judge(0)", 1);
    }

    static void p40_theLastIsNot() {
        fallen(0, 14, 15).asks("judge(0)", 3);
    }

    static void p40_ofSeveralTheFirst() {
        fallen(0, 15, 15).asks("judge(0)", 2);
    }

    static void p40_allOf40() {
        fresh("sheet(0, 8, 40)").asks("judge(0)", 0).then("write(0, 39, 1)").asks("judge(0)", 40);
    }

    static void p40_monthWouldBe1000IsState() {
        fresh("sheet(0, 8, 40)").late(960).refuses("judge(0)", STATE);
        fresh("sheet(0, 8, 1)").late(999).refuses("judge(0)", STATE);
    }

    static void p40_monthWouldBe1000IsStateThoughTheFirstIsNot() {
        fresh("sheet(0, 8, 40)", "write(0, 0, 1)").late(960).refuses("judge(0)", STATE);
    }

    static void p40_monthWouldBe999() {
        fresh("sheet(0, 8, 40)").late(959).asks("judge(0)", 0);
    }

    static void p40_missingGoesAheadOfState() {
        fresh().late(999).refuses("judge(0)", MISSING).refuses("judge(4)", BEYOND);
    }
}
