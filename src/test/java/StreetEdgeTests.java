/** The sentences of promises 1 to 7 that name an edge, each with a test of its own. */
final class StreetEdgeTests extends Calls {
    private static final String GOOD = "s321f1h0#w4";

    public static void main(String[] args) throws InterruptedException {
        runAll(StreetEdgeTests.class, 1, 7);
    }

    /** The street of the rich object stays, whatever text is refused. */
    private static void refusedText(String text, int firstFault) {
        ScooterFlags x = rich();
        write(x, 0, 0, text);
        refused(x, y -> y.street(0, 0, 0, text.length()), -100 - firstFault, 0);
    }

    // ---- promise 1

    static void promise01_noStreetHasNoFlags() {
        for (int what = 0; what <= 4; what++) {
            due(new ScooterFlags().many(what), 0);
        }
        for (int f = -1; f <= 1; f++) {
            due(new ScooterFlags().ofFlag(f, 0), UNKNOWN);
        }
    }

    static void promise01_noStreetIsState() {
        due(new ScooterFlags().strong(1), STATE);
        due(new ScooterFlags().knee(1), STATE);
        due(new ScooterFlags().sole(0), STATE);
        due(new ScooterFlags().quickest(), STATE);
        due(new ScooterFlags().lightest(24), STATE);
        due(new ScooterFlags().reading(NONE), STATE);
        due(new ScooterFlags().strengths(), STATE);
        due(new ScooterFlags().knees(), STATE);
        due(new ScooterFlags().odds(24, 1), LOST);
    }

    static void promise01_sheetsHaveNothing() {
        for (int k = 0; k <= 3; k++) {
            ScooterFlags x = new ScooterFlags();
            due(x.lose(k), 0);
            due(x.put(k, 0, 1), NULL);
            due(x.copy(k, 0, k, 0, 0), NULL);
        }
    }

    static void promise01_traceAndFaultAre0() {
        due(new ScooterFlags().trace(), 0);
        due(new ScooterFlags().fault(), 0);
    }

    static void promise01_objectsShareNothing() {
        ScooterFlags old = rich();
        String before = all(old);
        ScooterFlags x = new ScooterFlags();
        due(x.many(0), 0);
        due(x.lose(0), 0);
        due(x.trace(), 0);
        take(x, "s110w4w4");
        x.rattle(0);
        x.reading(0);
        x.quickest();
        x.put(0, 0, 0);
        due(before.equals(all(old)) ? 1 : 0, 1);
    }

    static void promise01_constantsAreAsTold() {
        due(ScooterFlags.UNKNOWN, -1);
        due(ScooterFlags.OUTSIDE, -2);
        due(ScooterFlags.STATE, -3);
        due(ScooterFlags.FULL, -4);
        due(ScooterFlags.NONE, -9);
        due(ScooterFlags.LOST, Long.MIN_VALUE);
    }

    // ---- promise 2: what is refused, and the faults

    static void promise02_sheetOutside0To3IsUnknown() {
        for (int k : new int[] {-1, 4, MIN, MAX}) {
            refused(rich(), x -> x.street(k, 0, 0, 11), UNKNOWN, 0);
        }
    }

    static void promise02_unknownComesAheadOfOutside() {
        refused(rich(), x -> x.street(4, 3, -1, -1), UNKNOWN, 0);
    }

    static void promise02_eachOfTheFourSheetsIsOne() {
        for (int k = 0; k <= 3; k++) {
            ScooterFlags x = new ScooterFlags();
            write(x, k, 0, GOOD);
            due(x.street(k, 0, 0, 11), 3);
        }
    }

    static void promise02_laneOutside0To2IsOutside() {
        for (int lane : new int[] {-1, 3, MIN, MAX}) {
            refused(rich(), x -> x.street(0, lane, 0, 11), OUTSIDE, 0);
        }
    }

    static void promise02_outsideComesAheadOfFaults() {
        refused(rich(), x -> x.street(2, 3, 0, 11), OUTSIDE, 0);
        refused(rich(), x -> x.street(0, -1, -1, -1), OUTSIDE, 0);
    }

    static void promise02_eachOfTheThreeLanesIsOne() {
        for (int lane = 0; lane <= 2; lane++) {
            ScooterFlags x = new ScooterFlags();
            write(x, 0, lane, GOOD);
            due(x.street(0, lane, 0, 11), 3);
        }
    }

    static void promise02_rowOfAnotherLaneIsCast() {
        int[] lanes = {0, 1, NONE, 2};
        for (int k : new int[] {0, 1, 3}) {
            for (int lane = 0; lane <= 2; lane++) {
                int asked = lane;
                if (lane != lanes[k]) {
                    refused(rich(), x -> x.street(k, asked, 0, 1), CAST, 2);
                }
            }
        }
    }

    static void promise02_emptyRowOfAnotherLaneIsCast() {
        ScooterFlags x = rich();
        x.sheet(0, 1, 0);
        refused(x, y -> y.street(0, 2, 0, 0), CAST, 2);
    }

    static void promise02_nothingIsNullAndNoCast() {
        for (int lane = 0; lane <= 2; lane++) {
            int asked = lane;
            refused(rich(), x -> x.street(2, asked, 0, 0), NULL, 1);
        }
    }

    static void promise02_whatIsLostIsNoCastEither() {
        for (int lane = 0; lane <= 2; lane++) {
            int asked = lane;
            ScooterFlags x = rich();
            x.lose(3);
            refused(x, y -> y.street(3, asked, 0, 0), NULL, 1);
        }
    }

    static void promise02_castComesAheadOfSizeAndIndex() {
        refused(rich(), x -> x.street(0, 1, 0, -1), CAST, 2);
        refused(rich(), x -> x.street(0, 1, -1, 1), CAST, 2);
    }

    static void promise02_nullComesAheadOfSizeAndIndex() {
        refused(rich(), x -> x.street(2, 0, 0, -1), NULL, 1);
        refused(rich(), x -> x.street(2, 0, 9, 9), NULL, 1);
    }

    static void promise02_nBelow0IsSize() {
        refused(rich(), x -> x.street(0, 0, 0, -1), SIZE, 4);
        refused(rich(), x -> x.street(0, 0, 0, MIN), SIZE, 4);
    }

    static void promise02_sizeComesAheadOfIndex() {
        for (int i : new int[] {-1, 12, MIN, MAX}) {
            refused(rich(), x -> x.street(0, 0, i, -1), SIZE, 4);
        }
    }

    static void promise02_iBelow0IsIndex() {
        refused(rich(), x -> x.street(0, 0, -1, 11), INDEX, 3);
        refused(rich(), x -> x.street(0, 0, MIN, 11), INDEX, 3);
    }

    static void promise02_oneCellBehindTheLastIsIndex() {
        refused(rich(), x -> x.street(0, 0, 0, 12), INDEX, 3);
        refused(rich(), x -> x.street(0, 0, 1, 11), INDEX, 3);
        refused(rich(), x -> x.street(0, 0, 11, 1), INDEX, 3);
    }

    static void promise02_cellsBehindTheLastByAWrapAreIndex() {
        refused(rich(), x -> x.street(0, 0, MAX, 1), INDEX, 3);
        refused(rich(), x -> x.street(0, 0, 1, MAX), INDEX, 3);
        refused(rich(), x -> x.street(0, 0, MAX, MAX), INDEX, 3);
        refused(rich(), x -> x.street(0, 0, 0, MAX), INDEX, 3);
        refused(rich(), x -> x.street(0, 0, MIN, MAX), INDEX, 3);
    }

    static void promise02_noneTakenBehindTheEndIsIndex() {
        refused(rich(), x -> x.street(0, 0, 12, 0), INDEX, 3);
        refused(rich(), x -> x.street(0, 0, MAX, 0), INDEX, 3);
    }

    static void promise02_noneTakenAheadOfTheFirstIsIndex() {
        refused(rich(), x -> x.street(0, 0, -1, 0), INDEX, 3);
        refused(rich(), x -> x.street(0, 0, MIN, 0), INDEX, 3);
    }

    static void promise02_noneTakenAtTheEndEndsTooSoon() {
        refused(rich(), x -> x.street(0, 0, 11, 0), -100, 0);
        refused(rich(), x -> x.street(0, 0, 0, 0), -100, 0);
    }

    static void promise02_ofAnEmptyRowNoneEndsTooSoonAndOneIsIndex() {
        ScooterFlags x = rich();
        x.sheet(0, 0, 0);
        refused(x, y -> y.street(0, 0, 0, 0), -100, 0);
        refused(x, y -> y.street(0, 0, 0, 1), INDEX, 3);
        refused(x, y -> y.street(0, 0, 1, 0), INDEX, 3);
    }

    static void promise02_theLastCellsOfTheLongestRowAreThere() {
        ScooterFlags x = new ScooterFlags();
        x.sheet(3, 0, 60);
        write(x, 0, 0, GOOD);
        x.copy(0, 0, 3, 49, 11);
        due(x.street(3, 0, 49, 11), 3);
        due(x.street(3, 0, 0, 60), -100);
        due(x.street(3, 0, 0, 61), INDEX);
    }

    static void promise02_aTextThatIsTakenCameToNoFault() {
        ScooterFlags x = rich();
        x.sheet(0, 0, -1);
        due(x.street(0, 0, 0, 11), 3);
        due(x.fault(), 0);
    }

    // ---- promise 2: the first fault of a text

    static void promise02_firstCodeIsSAlone() {
        for (String s : new String[] {"r", "t", "S", "f", "#", "3"}) {
            refusedText(s + "321f1h0", 0);
        }
    }

    static void promise02_strongIs1To4() {
        refusedText("s/21f1h0", 1);
        refusedText("s021f1h0", 1);
        due(on("s121f1h0").many(1), 1);
        due(on("s421f1h0").many(1), 4);
        refusedText("s521f1h0", 1);
    }

    static void promise02_kneeIs1To3() {
        refusedText("s301f1h0", 2);
        due(on("s311f1h0").many(2), 1);
        due(on("s331f1h0").many(2), 3);
        refusedText("s341f1h0", 2);
    }

    static void promise02_soleIs0To2() {
        refusedText("s32/f1h0", 3);
        due(on("s320f1h0").many(3), 0);
        due(on("s322f1h0").many(3), 2);
        refusedText("s323f1h0", 3);
    }

    static void promise02_letterIsFOrHOrW() {
        due(on("s321f1f1").ofFlag(1, 0), 0);
        due(on("s321f1h1").ofFlag(1, 0), 1);
        due(on("s321f1w1").ofFlag(1, 0), 2);
        for (String letter : new String[] {"e", "g", "i", "v", "x", "s", "F", "H", "W", "0", "\"", "$"}) {
            refusedText("s321" + letter + "1h0", 4);
            refusedText("s321f1" + letter + "1h0", 6);
        }
    }

    static void promise02_takesIs0To4() {
        refusedText("s321f/h0", 5);
        due(on("s321f0h4").ofFlag(0, 1), 0);
        due(on("s321f0h4").ofFlag(1, 1), 4);
        refusedText("s321f5h0", 5);
        refusedText("s321f0h5", 7);
        refusedText("s321fh0", 5);
    }

    static void promise02_aGratingComesBehindADigitAlone() {
        refusedText("s321#f1h0", 4);
        refusedText("s321f#1h0", 5);
        due(take(new ScooterFlags(), "s321f1#h0#"), 2);
    }

    static void promise02_aSecondGratingCantBe() {
        refusedText("s321f1##h0", 7);
        refusedText("s321f1h0##", 9);
    }

    static void promise02_fewerThanTwoFlagsEndTooSoon() {
        refusedText("s321", 4);
        refusedText("s321f1", 6);
        refusedText("s321f1#", 7);
    }

    static void promise02_twoFlagsAreEnough() {
        due(take(new ScooterFlags(), "s321f1h0"), 2);
        due(take(new ScooterFlags(), "s321f1h0#"), 2);
    }

    static void promise02_tenFlagsAreTaken() {
        due(take(new ScooterFlags(), "s321" + times("f0", 10)), 10);
        due(take(new ScooterFlags(), "s321" + times("w4#", 10)), 10);
    }

    static void promise02_theLetterOfAnEleventhFlagIsTheFirstFault() {
        refusedText("s321" + times("f0", 10) + "f", 24);
        refusedText("s321" + times("f0", 11), 24);
        refusedText("s321" + times("f0#", 10) + "h0", 34);
        refusedText("s321" + times("f0", 10) + "#w0", 25);
    }

    static void promise02_aWrongCodeBehindTheTenthFlagIsTheFirstFault() {
        refusedText("s321" + times("f0", 10) + "x", 24);
        refusedText("s321" + times("f0", 10) + "0", 24);
        refusedText("s321" + times("f0#", 10) + "#", 34);
    }

    static void promise02_aTextThatEndsTooSoonTellsHowManyCodesThereAre() {
        String text = "s321f1#h0";
        for (int n = 0; n < text.length(); n++) {
            refusedText(text.substring(0, n), n);
        }
        refusedText("s321f1h", 7);
        refusedText("s321f1h0w", 9);
    }

    static void promise02_whatComesBehindTheEndDoesntMakeATextLonger() {
        ScooterFlags x = rich();
        write(x, 0, 0, "s321f1#h0#");
        for (int n = 0; n <= 8; n++) {
            int codes = n;
            refused(x, y -> y.street(0, 0, 0, codes), -100 - n, 0);
        }
    }

    static void promise02_aWrongCodeBehindTheEndIsNoFirstFault() {
        ScooterFlags x = rich();
        write(x, 0, 0, "s3xxxx");
        refused(x, y -> y.street(0, 0, 0, 1), -101, 0);
        write(x, 0, 0, "s321f1xx");
        refused(x, y -> y.street(0, 0, 0, 5), -105, 0);
        refused(x, y -> y.street(0, 0, 0, 6), -106, 0);
    }

    static void promise02_aWrongCodeComesAheadOfTheEnd() {
        refusedText("s9", 1);
        refusedText("s32x", 3);
        refusedText("s321f1x", 6);
        refusedText("x", 0);
    }

    static void promise02_theFirstOfManyFaultsIsTold() {
        refusedText("s9x9", 1);
        refusedText("s321f1x9##", 6);
        refusedText("xxxx", 0);
    }

    static void promise02_codesAreWholeNumbersOfTheirLane() {
        for (int code : new int[] {115 + 256, 115 - 256, 115 + 65536, -115, MIN + 115}) {
            ScooterFlags x = rich();
            write(x, 3, 2, GOOD);
            x.put(3, 0, code);
            refused(x, y -> y.street(3, 2, 0, 11), -100, 0);
        }
    }

    static void promise02_codesAreWhatTheLaneHasCut() {
        ScooterFlags x = new ScooterFlags();
        write(x, 0, 0, GOOD);
        x.put(0, 0, 115 + 256);
        due(x.street(0, 0, 0, 11), 3);
        write(x, 1, 1, GOOD);
        x.put(1, 0, 115 + 65536);
        due(x.street(1, 1, 0, 11), 3);
    }

    static void promise02_cellsAheadOfTheTextAndBehindItAreNotLookedAt() {
        ScooterFlags x = new ScooterFlags();
        write(x, 0, 0, "xxs321f1h0#x");
        due(x.street(0, 0, 2, 8), 2);
        due(x.ofFlag(1, 3), 0);
        due(x.street(0, 0, 2, 9), 2);
        due(x.ofFlag(1, 3), 1);
        due(x.street(0, 0, 2, 10), -109);
        due(x.street(0, 0, 1, 8), -100);
    }

    // ---- promise 2: a text that is taken makes all anew

    static void promise02_aTakenTextForgetsReadings() {
        ScooterFlags x = rich();
        due(x.street(0, 0, 0, 11), 3);
        due(x.many(4), 0);
        due(x.back(1), OUTSIDE);
        due(x.smooth(0), 31);
        due(x.reading(3), 0);
    }

    static void promise02_aTakenTextMakesStrongKneeAndSoleAnew() {
        ScooterFlags x = rich();
        due(x.street(0, 0, 0, 11), 3);
        due(x.many(1), 3);
        due(x.many(2), 2);
        due(x.many(3), 1);
    }

    static void promise02_aTakenTextMakesGratingsAnew() {
        ScooterFlags x = rich();
        x.grating(1, false);
        due(x.street(0, 0, 0, 11), 3);
        due(x.ofFlag(0, 3), 0);
        due(x.ofFlag(1, 3), 1);
        due(x.ofFlag(2, 3), 0);
    }

    static void promise02_aTakenTextOfFewerFlagsLeavesNoOthers() {
        ScooterFlags x = on("s321" + times("w4#", 10));
        due(take(x, "s321f0f0"), 2);
        due(x.many(0), 2);
        due(x.ofFlag(2, 0), UNKNOWN);
        due(x.ofFlag(9, 0), UNKNOWN);
        due(ride(x, "0", 3), 3);
        due(ride(x, "02", 3), 3);
        due(ride(x, "02", 2), 2);
    }

    static void promise02_aTakenTextHasNoGratingOfAnyAheadOfIt() {
        ScooterFlags x = on("s321w4#w4#");
        for (int k = 0; k < 3; k++) {
            due(take(x, "s321f0f0"), 2);
            due(x.ofFlag(0, 3), 0);
            due(x.ofFlag(1, 3), 0);
        }
    }

    static void promise02_aTakenTextLeavesSheetsAndTrace() {
        ScooterFlags x = rich();
        int trace = x.trace();
        due(x.street(0, 0, 0, 11), 3);
        due(x.trace(), trace);
        due(x.cell(0, 10, 0), '4');
        due(x.cell(1, 4, 1), 4);
        due(x.put(2, 0, 0), NULL);
        due(x.cell(3, 1, 2), MIN);
    }

    static void promise02_whatComesToTheSheetLaterIsNotOfTheStreet() {
        ScooterFlags x = new ScooterFlags();
        take(x, GOOD);
        x.put(0, 1, '1');
        x.put(0, 5, '4');
        x.lose(0);
        due(x.many(1), 3);
        due(x.ofFlag(0, 1), 1);
        due(x.quickest(), on(GOOD).quickest());
    }

    static void promise02_aRefusedTextWithoutAStreetLeavesNone() {
        ScooterFlags x = new ScooterFlags();
        due(take(x, "s321f1"), -106);
        for (int what = 0; what <= 4; what++) {
            due(x.many(what), 0);
        }
        due(x.quickest(), STATE);
        due(x.ofFlag(0, 0), UNKNOWN);
    }

    // ---- promise 3

    static void promise03_flagBelow0IsUnknown() {
        leaves(rich(), x -> x.ofFlag(-1, 0), UNKNOWN);
        leaves(rich(), x -> x.ofFlag(MIN, 0), UNKNOWN);
    }

    static void promise03_flagBehindTheLastIsUnknown() {
        leaves(rich(), x -> x.ofFlag(3, 0), UNKNOWN);
        leaves(rich(), x -> x.ofFlag(MAX, 0), UNKNOWN);
        due(on("s111" + times("f0", 10)).ofFlag(10, 0), UNKNOWN);
    }

    static void promise03_withoutAStreetEachFlagIsUnknown() {
        leaves(bare(), x -> x.ofFlag(0, 0), UNKNOWN);
    }

    static void promise03_unknownComesAheadOfOutside() {
        leaves(rich(), x -> x.ofFlag(3, 4), UNKNOWN);
        leaves(rich(), x -> x.ofFlag(-1, -1), UNKNOWN);
    }

    static void promise03_whatOutside0To3IsOutside() {
        for (int what : new int[] {-1, 4, MIN, MAX}) {
            leaves(rich(), x -> x.ofFlag(0, what), OUTSIDE);
        }
    }

    static void promise03_theFirstFlagAndTheLastAreThere() {
        ScooterFlags x = on("s111h1" + times("f0", 8) + "w3#");
        int[] first = {1, 1, 2, 0};
        int[] last = {2, 3, 1, 1};
        for (int what = 0; what <= 3; what++) {
            due(x.ofFlag(0, what), first[what]);
            due(x.ofFlag(9, what), last[what]);
        }
    }

    static void promise03_dragOfAFlagIsWhatItTakes() {
        ScooterFlags x = on("s111f0f1f2f3f4");
        for (int f = 0; f <= 4; f++) {
            due(x.ofFlag(f, 2), f);
        }
    }

    static void promise03_dragOfAHillIs1More() {
        ScooterFlags x = on("s111h0h1h2h3h4");
        for (int f = 0; f <= 4; f++) {
            due(x.ofFlag(f, 2), f + 1);
        }
    }

    static void promise03_dragOfAWetOneIsHalfOfAFlagsCut() {
        ScooterFlags x = on("s111w0w1w2w3w4");
        int[] want = {0, 0, 1, 1, 2};
        for (int f = 0; f <= 4; f++) {
            due(x.ofFlag(f, 2), want[f]);
        }
    }

    // ---- promise 4

    static void promise04_vBelow1IsOutside() {
        leaves(rich(), x -> x.strong(0), OUTSIDE);
        leaves(rich(), x -> x.strong(MIN), OUTSIDE);
    }

    static void promise04_vAbove4IsOutside() {
        leaves(rich(), x -> x.strong(5), OUTSIDE);
        leaves(rich(), x -> x.strong(MAX), OUTSIDE);
    }

    static void promise04_v1To4IsTakenAndTellsWhatItWas() {
        ScooterFlags x = rich();
        int was = 2;
        for (int v : new int[] {1, 4, 3, 2}) {
            due(x.strong(v), was);
            due(x.many(1), v);
            was = v;
        }
    }

    static void promise04_theSameAgainIsTakenToo() {
        ScooterFlags x = rich();
        due(x.strong(2), 2);
        due(x.many(1), 2);
    }

    static void promise04_noStreetIsState() {
        leaves(bare(), x -> x.strong(1), STATE);
        leaves(bare(), x -> x.strong(4), STATE);
    }

    static void promise04_outsideComesAheadOfState() {
        leaves(bare(), x -> x.strong(0), OUTSIDE);
        leaves(bare(), x -> x.strong(5), OUTSIDE);
    }

    static void promise04_readingsAndTheRestStay() {
        ScooterFlags x = rich();
        String before = all(x);
        x.strong(4);
        due(x.many(4), 2);
        due(x.many(2), 3);
        due(x.many(3), 2);
        x.strong(2);
        due(before.equals(all(x)) ? 1 : 0, 1);
    }

    // ---- promise 5

    static void promise05_vBelow1IsOutside() {
        leaves(rich(), x -> x.knee(0), OUTSIDE);
        leaves(rich(), x -> x.knee(MIN), OUTSIDE);
    }

    static void promise05_vAbove3IsOutside() {
        leaves(rich(), x -> x.knee(4), OUTSIDE);
        leaves(rich(), x -> x.knee(MAX), OUTSIDE);
    }

    static void promise05_v1To3IsTakenAndTellsWhatItWas() {
        ScooterFlags x = rich();
        int was = 3;
        for (int v : new int[] {1, 3, 2}) {
            due(x.knee(v), was);
            due(x.many(2), v);
            was = v;
        }
    }

    static void promise05_theSameAgainIsTakenToo() {
        ScooterFlags x = rich();
        due(x.knee(3), 3);
        due(x.many(2), 3);
    }

    static void promise05_noStreetIsState() {
        leaves(bare(), x -> x.knee(1), STATE);
        leaves(bare(), x -> x.knee(3), STATE);
    }

    static void promise05_outsideComesAheadOfState() {
        leaves(bare(), x -> x.knee(0), OUTSIDE);
        leaves(bare(), x -> x.knee(4), OUTSIDE);
    }

    static void promise05_readingsAndTheRestStay() {
        ScooterFlags x = rich();
        String before = all(x);
        x.knee(1);
        due(x.many(4), 2);
        due(x.many(1), 2);
        due(x.many(3), 2);
        x.knee(3);
        due(before.equals(all(x)) ? 1 : 0, 1);
    }

    // ---- promise 6

    static void promise06_vBelow0IsOutside() {
        leaves(rich(), x -> x.sole(-1), OUTSIDE);
        leaves(rich(), x -> x.sole(MIN), OUTSIDE);
    }

    static void promise06_vAbove2IsOutside() {
        leaves(rich(), x -> x.sole(3), OUTSIDE);
        leaves(rich(), x -> x.sole(MAX), OUTSIDE);
    }

    static void promise06_v0To2IsTakenAndTellsWhatItWas() {
        ScooterFlags x = rich();
        int was = 2;
        for (int v : new int[] {0, 1, 2}) {
            due(x.sole(v), was);
            due(x.many(3), v);
            was = v;
        }
    }

    static void promise06_theSameAgainIsTakenToo() {
        ScooterFlags x = rich();
        due(x.sole(2), 2);
        due(x.many(3), 2);
    }

    static void promise06_noStreetIsState() {
        leaves(bare(), x -> x.sole(0), STATE);
        leaves(bare(), x -> x.sole(2), STATE);
    }

    static void promise06_outsideComesAheadOfState() {
        leaves(bare(), x -> x.sole(-1), OUTSIDE);
        leaves(bare(), x -> x.sole(3), OUTSIDE);
    }

    static void promise06_readingsAndTheRestStay() {
        ScooterFlags x = rich();
        String before = all(x);
        x.sole(0);
        due(x.many(4), 2);
        due(x.many(1), 2);
        due(x.many(2), 3);
        x.sole(2);
        due(before.equals(all(x)) ? 1 : 0, 1);
    }

    // ---- promise 7

    static void promise07_flagBelow0IsUnknown() {
        leaves(rich(), x -> x.grating(-1, true), UNKNOWN);
        leaves(rich(), x -> x.grating(MIN, false), UNKNOWN);
    }

    static void promise07_flagBehindTheLastIsUnknown() {
        leaves(rich(), x -> x.grating(3, true), UNKNOWN);
        leaves(rich(), x -> x.grating(3, false), UNKNOWN);
        leaves(rich(), x -> x.grating(MAX, true), UNKNOWN);
        due(on("s111" + times("f0", 10)).grating(10, true), UNKNOWN);
    }

    static void promise07_withoutAStreetEachFlagIsUnknown() {
        leaves(bare(), x -> x.grating(0, true), UNKNOWN);
        leaves(bare(), x -> x.grating(0, false), UNKNOWN);
    }

    static void promise07_itWasSoIs0AndChangesNothing() {
        leaves(rich(), x -> x.grating(0, false), 0);
        leaves(rich(), x -> x.grating(1, true), 0);
    }

    static void promise07_itWasNotSoIs1() {
        ScooterFlags x = rich();
        due(x.grating(0, true), 1);
        due(x.ofFlag(0, 3), 1);
        due(x.grating(1, false), 1);
        due(x.ofFlag(1, 3), 0);
        due(x.ofFlag(2, 3), 1);
    }

    static void promise07_theLastOfTenCanHaveOne() {
        ScooterFlags x = on("s111" + times("f0", 10));
        due(x.grating(9, true), 1);
        due(x.ofFlag(9, 3), 1);
        due(x.ofFlag(8, 3), 0);
    }

    static void promise07_readingsStay() {
        ScooterFlags x = rich();
        x.grating(0, true);
        due(x.many(4), 2);
    }
}
