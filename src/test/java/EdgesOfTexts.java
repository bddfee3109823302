/** Boundary cases of promises 31 to 33: texts. */
final class EdgesOfTexts extends EdgeWords {
    private EdgesOfTexts() {
    }

    // ---- 31: feed

    static void p31_fewerThan1AreBeyond() {
        court().refusesEach("feed(97, ?)", BEYOND, 0, -1, MIN);
    }

    static void p31_moreThan4AreBeyond() {
        court().refusesEach("feed(97, ?)", BEYOND, 5, MAX);
    }

    static void p31_1To4BytesTheHighestOfTheseFirst() {
        // 'law 2' in all ways; what stands above the lowest bytes is not taken.
        fresh().answers("feed(1818326816, 4)", 4).answers("feed(50, 1)", 5).answers("text()", 1).answers("law(0, 0)", 2);
        fresh().answers("feed(" + 0x7a7a6c61 + ", 2)", 2).answers("feed(" + 0x7a772032 + ", 3)", 5).answers("text()", 1)
                .answers("law(0, 0)", 2);
        fresh().answers("feed(" + 0x7a7a7a6c + ", 1)", 1).answers("feed(" + 0x61772032 + ", 4)", 5).answers("text()", 1)
                .answers("law(0, 0)", 2);
    }

    static void p31_aByteAbove127IsNoSign() {
        fresh().answers("feed(-1, 4)", 4).answers("feed(MIN, 1)", 5).answers("text()", -1);
        fresh().tape("law 2").answers("feed(255, 1)", 6).answers("text()", -6);
    }

    static void p31_the120thByteMayCome() {
        fresh().tape(row(' ', 116)).answers("feed(" + 0x6c617731 + ", 4)", 120).asks("count(6)", 120)
                .answers("text()", 1).answers("law(0, 0)", 1);
        fresh().tape(row(' ', 119)).answers("feed(32, 1)", 120);
    }

    static void p31_the121stIsFull() {
        fresh().tape(row(' ', 120)).refusesEach("feed(97, ?)", FULL, 1, 2, 3, 4).asks("count(6)", 120);
        fresh().tape(row(' ', 117)).refuses("feed(97, 4)", FULL).answers("feed(97, 3)", 120);
        fresh().tape(row(' ', 119)).refuses("feed(97, 2)", FULL).answers("feed(97, 1)", 120);
    }

    static void p31_beyondGoesAheadOfFull() {
        fresh().tape(row(' ', 120)).refusesEach("feed(97, ?)", BEYOND, 0, 5);
    }

    static void p31_aTapeThatWasFullTakesBytesAgain() {
        fresh().tape(row(' ', 120)).answers("wipe()", 120).answers("feed(97, 4)", 4);
        fresh().tape(row(' ', 120)).answers("text()", -121).answers("feed(97, 4)", 4);
    }

    // ---- 32: wipe

    static void p32_anEmptyTapeHad0() {
        fresh().asks("wipe()", 0);
    }

    static void p32_oneByte() {
        fresh("feed(97, 1)").answers("wipe()", 1).asks("count(6)", 0).asks("wipe()", 0);
    }

    static void p32_120Bytes() {
        fresh().tape(row('a', 120)).answers("wipe()", 120).asks("count(6)", 0);
    }

    static void p32_nothingIsReadOfWhatWasThere() {
        fresh().tape("parts 5").then("wipe()").tape("law 2").answers("text()", 1).answers("law(0, 0)", 2)
                .answers("law(1, 3)", 3);
        fresh().tape("parts 5").then("wipe()").answers("text()", -1);
    }

    // ---- 33: where a text begins and ends

    static void p33_anEmptyTapeEndsTooEarlyAt0() {
        fresh().faults("", 0);
    }

    static void p33_blanksAloneEndTooEarlyAtTheirNumber() {
        fresh().faults(" ", 1).faults("     ", 5).faults(row(' ', 120), 120);
    }

    static void p33_justOneItem() {
        fresh().reads("law 2", 1).answers("law(0, 0)", 2);
    }

    static void p33_asManyItemsAs120BytesHold() {
        fresh().reads(row('x', 23).replace("x", "law1;") + "law2", 24).answers("law(0, 0)", 2);
        fresh().faults(row('x', 24).replace("x", "law1;"), 120);
    }

    static void p33_anItemThatEndsWithThe120thByte() {
        fresh().reads(row(' ', 115) + "law 2", 1).answers("law(0, 0)", 2);
        fresh().reads("law 2" + row(' ', 115), 1).answers("law(0, 0)", 2);
    }

    static void p33_theFaultIsThe120thByte() {
        fresh().faults(row(' ', 115) + "law 3", 119);
        fresh().faults(row(' ', 114) + "law 1;", 120);
    }

    static void p33_itEndsTooEarlyBehindEachToken() {
        fresh("person(0, 7)").faults("rank", 4).faults("rank 0", 6).faults("rank 0 seats", 12).faults("law", 3)
                .faults("parts", 5).faults("price", 5);
        fresh("person(0, 7)").faults("person", 6).faults("person in", 9).faults("person in 0 age", 15)
                .faults("person in 0 house", 17).faults("person in 0 gold", 16).faults("person in 0 grudge", 18);
    }

    static void p33_itEndsTooEarlyBehindTheSign() {
        fresh().faults("law 1;", 6).faults("law 1 ;  ", 9);
    }

    static void p33_whereItEndsTooEarlyBlanksAreCounted() {
        fresh().faults("rank ", 5).faults("  rank 0   ", 11).faults("law  ", 5).faults("sly in   ", 9);
    }

    static void p33_blanksMayStandAheadBetweenAndBehind() {
        fresh().reads("   law   2   ;   parts   5   ", 2).answers("law(0, 0)", 2).answers("law(1, 3)", 5);
    }

    static void p33_noBlanksNeedStandBetween() {
        fresh().reads("rank7seats4;sly in7age1house2gold3;kin in7grudge0", 3).asks("of(0, 4)", 3).asks("of(1, 5)", 0);
    }

    static void p33_noOtherByteIsABlank() {
        Edge run = fresh();
        for (int c : new int[] {0, 9, 10, 13, 31, 33, 160, 255}) {
            run.faults("law" + (char) c + "1", 3);
        }
        fresh().faults("\tlaw 1", 0).faults("law 1\n", 5);
    }

    static void p33_theTapeIsEmptyBehindATextAndBehindAFault() {
        fresh().tape("law 1").answers("text()", 1).asks("count(6)", 0).answers("text()", -1);
        fresh().tape("law 9").answers("text()", -5).asks("count(6)", 0).answers("text()", -1);
    }

    // ---- 33: tokens

    static void p33_bytesBesideLettersBeginNoToken() {
        fresh().faults("`", 0).faults("{", 0).faults("A", 0).faults("Z", 0).faults("law`1", 3).faults("law{1", 3);
        fresh().faults("lawA 1", 3).faults("_law 1", 0).faults("law 1Z", 5);
    }

    static void p33_bytesBesideDigitsBeginNoToken() {
        fresh().faults("law /", 4).faults("law :", 4).faults("law 1/", 5).faults("law 1:", 5).faults("law -1", 4);
    }

    static void p33_bytesBesideTheSignAreNone() {
        fresh().faults("law 1:law 1", 5).faults("law 1<law 1", 5).faults("law 1,law 1", 5);
    }

    static void p33_aWordIsAsLongAsCanBe() {
        fresh().faults("lawlaw 1", 0).faults("laws 1", 0).faults("la w 1", 0).faults("ran k 1 seats 1", 0)
                .faults("person in 0 agehouse 1", 12).faults("personin 0", 0);
    }

    static void p33_aNumberIsAsLongAsCanBe() {
        fresh().faults("law 12", 4).faults("rank 70 seats 1", 5).faults("law 1 2", 6).faults("price 9999", 6);
        fresh().reads("rank 01 seats 02", 1).asks("rankOf(1, 0)", 2);
    }

    static void p33_letters_a_And_z_MakeAnotherWord() {
        fresh().faults("lawa 1", 0).faults("lawz 1", 0).faults("alaw 1", 0).faults("zlaw 1", 0);
    }

    static void p33_zerosAheadOfANumber() {
        fresh().reads("price 0000000000999", 1).answers("law(2, 0)", 999).reads("law 00000000000000000000002", 1)
                .answers("law(0, 0)", 2);
    }

    static void p33_aNumberAbove9999OrAboveAnyInt() {
        fresh().faults("person in 0 gold 10000", 17).faults("law 4294967296", 4).faults("law 4294967297", 4)
                .faults("parts 18446744073709551617", 6).faults("price 99999999999999999999", 6);
    }

    static void p33_theSignNeedsAnItemOnEitherSide() {
        fresh().faults(";", 0).faults(";law 1", 0).faults("law 1;;law 1", 6).faults("law 1; ;", 7);
    }

    static void p33_twoItemsNeedTheSign() {
        fresh().faults("law 1 law 1", 6).faults("law 1 parts 1", 6).faults("sly in 0 sly in 0", 9);
    }

    static void p33_aNumberOrTheSignBeginsNoItem() {
        fresh().faults("1", 0).faults("0 law 1", 0).faults("law 1;2", 6);
    }

    static void p33_anotherWordBeginsNoItem() {
        fresh().faults("seats 1", 0).faults("in 0", 0).faults("age 1", 0).faults("grudge 0", 0).faults("out 1", 0)
                .faults("text", 0);
    }

    static void p33_aWordOrTheSignIsNoNumber() {
        fresh().faults("law one", 4).faults("law ;", 4).faults("rank seats", 5).faults("rank 0 seats x", 13)
                .faults("parts law", 6).faults("price ;", 6).faults("sly in in", 7).faults("sly in 0 age age", 13);
    }

    static void p33_aNumberOrTheSignIsNoWord() {
        fresh().faults("rank 0 0", 7).faults("rank 0;", 6).faults("sly 0", 4).faults("sly;", 3).faults("sly in 0 0", 9);
    }

    // ---- 33: rank, seats

    static void p33_rank0And7() {
        fresh().reads("rank 0 seats 1;rank 7 seats 2", 2).asks("rankOf(0, 0)", 1).asks("rankOf(7, 0)", 2);
    }

    static void p33_rank8() {
        fresh().faults("rank 8 seats 1", 5);
    }

    static void p33_seats0And4() {
        fresh().reads("rank 1 seats 0;rank 2 seats 4", 2).asks("rankOf(1, 0)", 0).asks("rankOf(2, 0)", 4);
    }

    static void p33_seats5() {
        fresh().faults("rank 1 seats 5", 13);
    }

    static void p33_seatsAsManyAsThereAreInIt() {
        people(0, 1, 1).reads("rank 1 seats 2", 1).asks("rankOf(1, 0)", 2);
        people(6, 1).reads("rank 1 seats 1", 1);
    }

    static void p33_seatsFewerThanThereAreInIt() {
        people(0, 1, 1).faults("rank 1 seats 1", 13).faults("rank 1 seats 0", 13);
        people(6, 1).faults("rank 1 seats 0", 13);
    }

    static void p33_seatsFewerThanTheTextHasPutThere() {
        fresh().faults("sly in 1;rank 1 seats 0", 22).reads("sly in 1;rank 1 seats 1", 2);
    }

    static void p33_thoseOutAreNotInIt() {
        people(0, 1).then("put(0, -1)").reads("rank 1 seats 0", 1).asks("rankOf(1, 0)", 0);
    }

    static void p33_anotherWordThanSeats() {
        fresh().faults("rank 1 seat 1", 7).faults("rank 1 in 1", 7).faults("rank 1 law 1", 7);
    }

    // ---- 33: persons

    static void p33_eachWordOfAKind() {
        Edge run = fresh().reads("person in 0;loyal in 1;bought in 2;sly in 3;kin in 4;plotter in 5;hermit in 6", 7);
        for (int kind = 0; kind < 7; kind++) {
            run.asks("of(" + kind + ", 0)", kind).asks("of(" + kind + ", 1)", kind);
        }
    }

    static void p33_whatIsNotToldIsAsAtFirst() {
        fresh().reads("kin in 7", 1).asks("of(0, 2)", 30).asks("of(0, 3)", 0).asks("of(0, 4)", 100)
                .asks("of(0, 5)", -1).asks("of(0, 6)", 0);
    }

    static void p33_inRank0And7() {
        fresh().reads("sly in 0;sly in 7", 2).asks("of(0, 1)", 0).asks("of(1, 1)", 7);
    }

    static void p33_inRank8() {
        fresh().faults("sly in 8", 7);
    }

    static void p33_inTheLastFreeSeat() {
        fresh("person(0, 1)", "person(0, 1)").reads("sly in 1", 1).asks("rankOf(1, 1)", 3);
    }

    static void p33_inARankWithoutAFreeSeat() {
        fresh("person(0, 1)", "person(0, 1)", "person(0, 1)").faults("sly in 1", 7);
        fresh("seats(1, 0)").faults("sly in 1", 7);
    }

    static void p33_inARankThatTheTextItselfHasFilled() {
        fresh().faults("sly in 1;sly in 1;sly in 1;sly in 1", 34);
    }

    static void p33_inARankWhoseSeatsTheTextItselfHasTold() {
        fresh("seats(1, 0)").reads("rank 1 seats 1;sly in 1", 2);
        fresh().faults("rank 1 seats 0;sly in 1", 22);
    }

    static void p33_anotherWordThanIn() {
        fresh().faults("sly on 1", 4).faults("sly age 1", 4).faults("sly sly in 1", 4);
    }

    static void p33_age0And99() {
        fresh().reads("sly in 1 age 0;sly in 1 age 99", 2).asks("of(0, 2)", 0).asks("of(1, 2)", 99);
    }

    static void p33_age100() {
        fresh().faults("sly in 1 age 100", 13);
    }

    static void p33_house0And3() {
        fresh().reads("sly in 1 house 0;sly in 1 house 3", 2).asks("of(0, 3)", 0).asks("of(1, 3)", 3);
    }

    static void p33_house4() {
        fresh().faults("sly in 1 house 4", 15);
    }

    static void p33_gold0And9999() {
        fresh().reads("sly in 1 gold 0;sly in 1 gold 9999", 2).asks("of(0, 4)", 0).asks("of(1, 4)", 9999);
    }

    static void p33_gold10000() {
        fresh().faults("sly in 1 gold 10000", 14);
    }

    static void p33_goldWithADigitBehind9999() {
        fresh().faults("sly in 1 gold 99990", 14).faults("sly in 1 gold 99999", 14).faults("sly in 1 gold 999900000", 14);
    }

    static void p33_grudgeOfTheFirstAndTheLastThatThereAre() {
        fresh("person(0, 0)", "person(0, 0)").reads("sly in 1 grudge 0;sly in 1 grudge 2", 2).asks("of(2, 5)", 0)
                .asks("of(3, 5)", 2).asks("of(3, 6)", 0);
    }

    static void p33_grudgeOfItself() {
        fresh("person(0, 0)", "person(0, 0)").faults("sly in 1 grudge 2", 16);
        fresh().faults("sly in 1 grudge 0", 16);
    }

    static void p33_grudgeOfOneThatThereIsNotYet() {
        fresh("person(0, 0)", "person(0, 0)").faults("sly in 1 grudge 3", 16)
                .faults("sly in 1 grudge 3;sly in 1", 16).faults("sly in 1;sly in 1 grudge 3", 25);
    }

    static void p33_grudgeOfOneWhoIsOut() {
        fresh("person(0, 0)", "put(0, -1)").reads("sly in 1 grudge 0", 1).asks("of(1, 5)", 0);
    }

    static void p33_detailsOneByOneAndAll() {
        fresh("person(0, 0)").reads("sly in 1 age 1 gold 2", 1).reads("sly in 1 house 2 grudge 1", 1)
                .reads("sly in 1 age 9 house 3 gold 8 grudge 2", 1).asks("of(1, 4)", 2).asks("of(2, 5)", 1)
                .asks("of(3, 2)", 9).asks("of(3, 3)", 3).asks("of(3, 4)", 8).asks("of(3, 5)", 2);
    }

    static void p33_detailsInAnotherOrder() {
        fresh("person(0, 0)").faults("sly in 1 house 1 age 1", 17).faults("sly in 1 gold 1 age 1", 16)
                .faults("sly in 1 gold 1 house 1", 16).faults("sly in 1 grudge 0 gold 1", 18)
                .faults("sly in 1 grudge 0 age 1", 18).faults("sly in 1 grudge 0 house 1", 18);
    }

    static void p33_aDetailTwice() {
        fresh("person(0, 0)").faults("sly in 1 age 1 age 1", 15).faults("sly in 1 house 1 house 1", 17)
                .faults("sly in 1 gold 1 gold 1", 16).faults("sly in 1 grudge 0 grudge 0", 18);
    }

    static void p33_the12thPerson() {
        people(0, 1, 1, 1, 2, 2, 2, 3, 3, 3, 4, 4).reads("sly in 7", 1).asks("count(1)", 12);
    }

    static void p33_the13thPersonIsAFaultAtItsWord() {
        crowd().faults("sly in 7", 0).faults("law 1;  hermit in 7", 8);
        people(0, 1, 1, 1, 2, 2, 2, 3, 3, 3, 4, 4).faults("sly in 7;kin in 7", 9).asks("count(1)", 11);
    }

    static void p33_the13thPersonIsAFaultAtItsWordThoughMoreIsWrong() {
        crowd().faults("sly", 0).faults("sly in 9", 0).faults("sly;", 0);
    }

    static void p33_aFaultAheadOfThe13thPersonGoesFirst() {
        crowd().faults("law 9;sly in 7", 4);
    }

    static void p33_otherItemsStandWith12Persons() {
        crowd().reads("law 2;rank 7 seats 0;parts 1;price 0", 4);
    }

    // ---- 33: law, parts, price

    static void p33_law0And2() {
        fresh().reads("law 2", 1).answers("law(0, 1)", 2).reads("law 0", 1).answers("law(0, 1)", 0);
    }

    static void p33_law3() {
        fresh().faults("law 3", 4);
    }

    static void p33_parts1And5() {
        fresh().reads("parts 1", 1).answers("law(1, 3)", 1).reads("parts 5", 1).answers("law(1, 3)", 5);
    }

    static void p33_parts0And6() {
        fresh().faults("parts 0", 6).faults("parts 6", 6);
    }

    static void p33_price0And999() {
        fresh().reads("price 0", 1).answers("law(2, 50)", 0).reads("price 999", 1).answers("law(2, 50)", 999);
    }

    static void p33_price1000() {
        fresh().faults("price 1000", 6);
    }

    // ---- 33: all of it

    static void p33_itemByItemTheLastOneCounts() {
        fresh().reads("law 1;law 2;parts 1;parts 2;rank 0 seats 0;rank 0 seats 4", 6).answers("law(0, 0)", 2)
                .answers("law(1, 3)", 2).asks("rankOf(0, 0)", 4);
    }

    static void p33_aFaultInTheLastItemTakesAllBack() {
        court().faults("rank 6 seats 1;law 0;parts 1;price 1;sly in 6 age 1 house 1 gold 1 grudge 0;law 3", 80);
    }

    static void p33_aFaultIsNoFinding() {
        fresh().faults("law 3", 4).asks("status(-1)", 0);
    }

    static void p33_whatTheTextDoesNotTellStays() {
        court("wipe()").reads("price 1", 1).asks("count(0)", 1).asks("count(1)", 8).asks("count(7)", -77)
                .asks("of(2, 6)", 10).answers("law(0, 0)", 1).answers("law(1, 3)", 2).asks("as(3, 0)", 1);
    }
}
