/** The sentences of promises 12 to 18 (and of the document's part 4) that name an edge, each with a test of its own. */
final class SeenEdgeTests extends Calls {
    /** QUICKEST is 4 as it is; 1, 2 or 4 as FLAG 0 takes 0, 1 or 2, 3 or 4; 2 if that is WET. */
    private static final String STREET = "s411f4f0";
    /** Nine flags that must all be walked but the last: 25 seconds. */
    private static final String TOO_LONG = "s210" + times("h4", 8) + "f0";
    /** QUICKEST is 9 by one brake ahead of the first grating; without a sole it is 15. */
    private static final String BRAKED = "s411f0f0f0" + times("f0#", 7);

    public static void main(String[] args) throws InterruptedException {
        runAll(SeenEdgeTests.class, 12, 18);
    }

    private static ScooterFlags read(String street, int... readings) {
        ScooterFlags x = on(street);
        for (int v : readings) {
            x.reading(v);
        }
        return x;
    }

    // ---- promise 12

    static void promise12_vBelow0ThatIsNotNoneIsOutside() {
        for (int v : new int[] {-1, -2, -8, -10, MIN}) {
            leaves(rich(), x -> x.reading(v), OUTSIDE);
        }
    }

    static void promise12_vAbove24IsOutside() {
        leaves(rich(), x -> x.reading(25), OUTSIDE);
        leaves(rich(), x -> x.reading(MAX), OUTSIDE);
    }

    static void promise12_v0And24AndNoneAreTaken() {
        ScooterFlags x = on(STREET);
        due(x.reading(0), 0);
        due(x.reading(24), 1);
        due(x.reading(NONE), 2);
        due(x.many(4), 3);
    }

    static void promise12_noStreetIsState() {
        leaves(bare(), x -> x.reading(0), STATE);
        leaves(bare(), x -> x.reading(NONE), STATE);
    }

    static void promise12_outsideComesAheadOfState() {
        leaves(bare(), x -> x.reading(25), OUTSIDE);
        leaves(bare(), x -> x.reading(-1), OUTSIDE);
    }

    static void promise12_theFirstIs0AndTheEighth7() {
        ScooterFlags x = on(STREET);
        for (int k = 0; k <= 7; k++) {
            due(x.reading(4), k);
        }
        due(x.many(4), 8);
    }

    static void promise12_aNinthIsFull() {
        ScooterFlags x = read(STREET, 4, 4, 4, 4, 4, 4, 4, 4);
        leaves(x, y -> y.reading(4), FULL);
        leaves(x, y -> y.reading(NONE), FULL);
    }

    static void promise12_outsideComesAheadOfFull() {
        ScooterFlags x = read(STREET, 4, 4, 4, 4, 4, 4, 4, 4);
        leaves(x, y -> y.reading(25), OUTSIDE);
        leaves(x, y -> y.reading(-1), OUTSIDE);
    }

    static void promise12_behindBackThereIsPlaceAgain() {
        ScooterFlags x = read(STREET, 4, 4, 4, 4, 4, 4, 4, 4);
        due(x.back(1), 7);
        due(x.reading(4), 7);
        due(x.reading(4), FULL);
        due(x.back(8), 0);
        due(x.reading(4), 0);
    }

    // ---- promise 13

    static void promise13_kBelow0IsOutside() {
        leaves(rich(), x -> x.back(-1), OUTSIDE);
        leaves(rich(), x -> x.back(MIN), OUTSIDE);
    }

    static void promise13_kAboveAsManyAsThereAreIsOutside() {
        leaves(rich(), x -> x.back(3), OUTSIDE);
        leaves(rich(), x -> x.back(MAX), OUTSIDE);
    }

    static void promise13_noneTakenBackLeavesAll() {
        leaves(rich(), x -> x.back(0), 2);
    }

    static void promise13_allTakenBackLeaveNone() {
        ScooterFlags x = rich();
        due(x.back(2), 0);
        due(x.many(4), 0);
        due(x.smooth(0), 31);
        due(x.back(1), OUTSIDE);
    }

    static void promise13_withoutReadings0IsTaken() {
        leaves(on(STREET), x -> x.back(0), 0);
        leaves(bare(), x -> x.back(0), 0);
        leaves(bare(), x -> x.back(1), OUTSIDE);
    }

    static void promise13_theLastOnesAreTakenBack() {
        ScooterFlags x = read(STREET, 4, 2);
        due(x.smooth(0), 0);
        due(x.back(1), 1);
        due(x.smooth(0), 24);
        x.reading(1);
        x.reading(2);
        due(x.back(2), 1);
        due(x.smooth(0), 24);
    }

    static void promise13_allEightAreTakenBack() {
        ScooterFlags x = read(STREET, 4, 4, 4, 4, 4, 4, 4, 4);
        due(x.back(9), OUTSIDE);
        due(x.back(8), 0);
    }

    // ---- promise 14

    static void promise14_flagBelow0IsUnknown() {
        leaves(rich(), x -> x.smooth(-1), UNKNOWN);
        leaves(rich(), x -> x.smooth(MIN), UNKNOWN);
    }

    static void promise14_flagBehindTheLastIsUnknown() {
        leaves(rich(), x -> x.smooth(3), UNKNOWN);
        leaves(rich(), x -> x.smooth(MAX), UNKNOWN);
        due(on("s410" + times("f0", 10)).smooth(10), UNKNOWN);
    }

    static void promise14_withoutAStreetEachFlagIsUnknown() {
        leaves(bare(), x -> x.smooth(0), UNKNOWN);
    }

    static void promise14_withoutReadingsItIsAll() {
        leaves(on(STREET), x -> x.smooth(0), 31);
        leaves(on(TOO_LONG), x -> x.smooth(8), 31);
    }

    static void promise14_what0And4AreInTheSet() {
        due(read(STREET, 1).smooth(0), 1);
        due(read(STREET, 2).smooth(0), 2 + 4);
        due(read(STREET, 4).smooth(0), 8 + 16);
    }

    static void promise14_noneThatIsSoIsTheEmptySet() {
        due(read(STREET, 3).smooth(0), 0);
        due(read(STREET, 0).smooth(0), 0);
        due(read(STREET, 24).smooth(0), 0);
    }

    static void promise14_whatItIsAloneCountsAsTheOthersDo() {
        ScooterFlags x = read(STREET, 1);
        leaves(x, y -> y.smooth(0), 1);
        due(x.ofFlag(0, 1), 4);
    }

    static void promise14_allReadingsMustBeSo() {
        due(read(STREET, 2, 4).smooth(0), 0);
        due(read(STREET, 4, 2).smooth(0), 0);
        due(read(STREET, 4, 4, 4, 4, 4, 4, 4, 2).smooth(0), 0);
        due(read(STREET, 2, 4, 4, 4, 4, 4, 4, 4).smooth(0), 0);
        due(read(STREET, 4, 4, 4, 4, 4, 4, 4, 4).smooth(0), 24);
    }

    static void promise14_aReadingOfNoneIsThatThereWasNone() {
        due(read(TOO_LONG, NONE).smooth(0), 31);
        due(read("s410" + times("f4", 9), NONE).smooth(0), 2 + 4 + 8 + 16);
        due(read(STREET, NONE).smooth(0), 0);
        due(read(TOO_LONG, 24).smooth(0), 0);
    }

    static void promise14_itIsByHowAllIsNow() {
        ScooterFlags x = read(STREET, 2);
        due(x.smooth(0), 6);
        x.strong(3);
        due(x.smooth(0), 3);
        x.grating(1, true);
        due(x.smooth(0), 3);
        x.strong(4);
        due(x.smooth(0), 6);
    }

    static void promise14_theKindAndTheGratingStay() {
        due(read("s410h4f0", 2).smooth(0), 1 + 2);
        due(read("s410w4f0", 2).smooth(0), 4 + 8 + 16);
        due(read("s410f0f4#", 4).smooth(1), 8 + 16);
    }

    static void promise14_strongKneeAndSoleStay() {
        due(read(BRAKED, 9).smooth(0), 1);
        due(read("s130f0f0h1", 5).smooth(0), 1);
    }

    // ---- promise 15

    static void promise15_flagBelow0IsUnknown() {
        leaves(rich(), x -> x.kinds(-1), UNKNOWN);
        leaves(rich(), x -> x.kinds(MIN), UNKNOWN);
    }

    static void promise15_flagBehindTheLastIsUnknown() {
        leaves(rich(), x -> x.kinds(3), UNKNOWN);
        leaves(rich(), x -> x.kinds(MAX), UNKNOWN);
        due(on("s410" + times("f0", 10)).kinds(10), UNKNOWN);
    }

    static void promise15_withoutAStreetEachFlagIsUnknown() {
        leaves(bare(), x -> x.kinds(0), UNKNOWN);
    }

    static void promise15_withoutReadingsItIsAll() {
        leaves(on(STREET), x -> x.kinds(0), 7);
        leaves(on(TOO_LONG), x -> x.kinds(8), 7);
    }

    static void promise15_kind0And1And2CanBeAlone() {
        due(read("s420f3f0", 3).kinds(0), 1);
        due(read("s420f3f0", 4).kinds(0), 2);
        due(read("s420f3f0", 2).kinds(0), 4);
        due(read("s310f1f0", 2).kinds(0), 1 + 4);
    }

    static void promise15_noneThatIsSoIsTheEmptySet() {
        due(read(STREET, 3).kinds(0), 0);
        due(read(STREET, 0).kinds(1), 0);
    }

    static void promise15_whatItIsAloneCountsAsTheOthersDo() {
        ScooterFlags x = read(STREET, 2);
        leaves(x, y -> y.kinds(0), 4);
        due(x.ofFlag(0, 0), 0);
    }

    static void promise15_allReadingsMustBeSo() {
        due(read(STREET, 2, 4).kinds(0), 0);
        due(read(STREET, 4, 2).kinds(0), 0);
        due(read(STREET, 4, 4, 4, 4, 4, 4, 4, 4).kinds(0), 3);
    }

    static void promise15_aReadingOfNoneIsThatThereWasNone() {
        due(read(TOO_LONG, NONE).kinds(0), 7);
        due(read(STREET, NONE).kinds(0), 0);
        due(read(TOO_LONG, 24).kinds(0), 0);
    }

    static void promise15_itIsByHowAllIsNow() {
        ScooterFlags x = read(STREET, 4);
        due(x.kinds(0), 3);
        x.strong(2);
        due(x.kinds(0), 7);
        x.knee(2);
        x.strong(4);
        due(x.kinds(0), 3);
        x.grating(1, true);
        due(x.kinds(0), 3);
    }

    static void promise15_strongKneeAndSoleStay() {
        due(read(BRAKED, 9).kinds(0), 1 + 4);
        due(read("s130f0f0h1", 5).kinds(0), 1 + 4);
    }

    static void promise15_whatItTakesAndItsGratingStay() {
        due(read("s420f0f3#", 2).kinds(1), 4);
        due(read("s420f0f3#", 4).kinds(1), 1 + 2);
        due(read("s411f4f4", 6).kinds(1), 1 + 2);
    }

    // ---- promise 16

    static void promise16_noStreetIsState() {
        leaves(bare(), x -> x.strengths(), STATE);
    }

    static void promise16_withoutReadingsItIsAll() {
        leaves(on(STREET), x -> x.strengths(), 30);
        leaves(on(TOO_LONG), x -> x.strengths(), 30);
    }

    static void promise16_strength1And4AreInTheSet() {
        due(read("s210f0f0", 4).strengths(), 2);
        due(read("s210f0f0", 2).strengths(), 4 + 8);
        due(read("s210f0f0", 1).strengths(), 16);
    }

    static void promise16_noneThatIsSoIsTheEmptySet() {
        leaves(read("s210f0f0", 3), x -> x.strengths(), 0);
    }

    static void promise16_whatItIsAloneCountsAsTheOthersDo() {
        leaves(read("s210f0f0", 1), x -> x.strengths(), 16);
    }

    static void promise16_allReadingsMustBeSo() {
        due(read("s210f0f0", 1, 2).strengths(), 0);
        due(read("s210f0f0", 2, 1).strengths(), 0);
        due(read("s210f0f0", 1, 1, 1, 1, 1, 1, 1, 1).strengths(), 16);
    }

    static void promise16_aReadingOfNoneIsThatThereWasNone() {
        due(read(TOO_LONG, NONE).strengths(), 30);
        due(read(TOO_LONG, 24).strengths(), 0);
        due(read("s210f0f0", NONE).strengths(), 0);
    }

    static void promise16_itIsByHowAllIsNow() {
        ScooterFlags x = read("s210f0f0", 3);
        due(x.strengths(), 0);
        x.knee(2);
        due(x.strengths(), 2);
    }

    static void promise16_kneeAndSoleStay() {
        due(read(BRAKED, 9).strengths(), 16);
        due(read("s230f0f0h1", 5).strengths(), 2);
    }

    // ---- promise 17

    static void promise17_noStreetIsState() {
        leaves(bare(), x -> x.knees(), STATE);
    }

    static void promise17_withoutReadingsItIsAll() {
        leaves(on(STREET), x -> x.knees(), 14);
        leaves(on(TOO_LONG), x -> x.knees(), 14);
    }

    static void promise17_knee1And3AreInTheSet() {
        due(read("s120f0f0", 4).knees(), 2);
        due(read("s120f0f0", 3).knees(), 4 + 8);
        due(read("s220f0f0f0f0f0f0", 4).knees(), 2 + 4);
        due(read("s220f0f0f0f0f0f0", 3).knees(), 8);
    }

    static void promise17_noneThatIsSoIsTheEmptySet() {
        leaves(read("s120f0f0", 2), x -> x.knees(), 0);
    }

    static void promise17_whatItIsAloneCountsAsTheOthersDo() {
        leaves(read("s120f0f0", 4), x -> x.knees(), 2);
    }

    static void promise17_allReadingsMustBeSo() {
        due(read("s120f0f0", 3, 4).knees(), 0);
        due(read("s120f0f0", 4, 3).knees(), 0);
        due(read("s120f0f0", 4, 4, 4, 4, 4, 4, 4, 4).knees(), 2);
    }

    static void promise17_aReadingOfNoneIsThatThereWasNone() {
        due(read(TOO_LONG, NONE).knees(), 14);
        due(read(TOO_LONG, 24).knees(), 0);
        due(read("s120f0f0", NONE).knees(), 0);
    }

    static void promise17_itIsByHowAllIsNow() {
        ScooterFlags x = read("s120f0f0", 4);
        due(x.knees(), 2);
        x.strong(2);
        due(x.knees(), 0);
    }

    static void promise17_strongAndSoleStay() {
        due(read(BRAKED, 9).knees(), 2 + 4 + 8);
        due(read("s120f0f0h1", 5).knees(), 8);
    }

    // ---- promise 18

    private static void dueOdds(ScooterFlags x, int n, int upper, int lower) {
        due("the upper of " + n, x.odds(n, 0), upper);
        due("the lower of " + n, x.odds(n, 1), lower);
    }

    static void promise18_nOutside0To24IsLost() {
        for (int n : new int[] {-1, 25, MIN, MAX}) {
            leaves(rich(), x -> x.odds(n, 0), LOST);
            leaves(rich(), x -> x.odds(n, 1), LOST);
        }
    }

    static void promise18_whichOutside0To1IsLost() {
        for (int which : new int[] {-1, 2, MIN, MAX}) {
            leaves(rich(), x -> x.odds(24, which), LOST);
        }
    }

    static void promise18_noStreetIsLost() {
        leaves(bare(), x -> x.odds(0, 0), LOST);
        leaves(bare(), x -> x.odds(24, 1), LOST);
    }

    static void promise18_moreThan4FlagsOfKind0Or2AreLost() {
        leaves(on("s410f0f0f0f0f0"), x -> x.odds(24, 0), LOST);
        leaves(on("s410w0w0w0w0w0"), x -> x.odds(24, 1), LOST);
        leaves(on("s410f0w0h0f0w0h0f0"), x -> x.odds(24, 0), LOST);
        leaves(on("s410" + times("f0", 10)), x -> x.odds(24, 0), LOST);
    }

    static void promise18_fourFlagsOfKind0Or2AreTaken() {
        dueOdds(on("s410f0w0f0w0"), 24, 1, 1);
        dueOdds(on("s410f0w0f0w0" + times("h0", 6)), 24, 1, 1);
    }

    static void promise18_hillsAloneHaveOneWay() {
        dueOdds(on("s410h0h0"), 2, 1, 1);
        dueOdds(on("s410h0h0"), 1, 0, 1);
        dueOdds(on("s410" + times("h0", 10)), 24, 1, 1);
    }

    static void promise18_noneOfThemIs0Of1() {
        dueOdds(on("s410f0f0f0f0"), 0, 0, 1);
        dueOdds(on(TOO_LONG), 24, 0, 1);
    }

    static void promise18_allOfThemAre1Of1() {
        dueOdds(on("s410f0f0f0f0"), 24, 1, 1);
        dueOdds(on("s410f4f4f4f4"), 12, 1, 1);
    }

    static void promise18_theLowerNumberCanBe16() {
        dueOdds(on("s410f4f4f4f4"), 11, 15, 16);
    }

    static void promise18_sharesAreInLeastTerms() {
        dueOdds(on("s411f4f4"), 3, 1, 4);
        dueOdds(on("s411f4f4"), 4, 3, 4);
        dueOdds(on("s411f4f0"), 2, 1, 2);
        dueOdds(on("s411f4h4"), 4, 1, 2);
    }

    static void promise18_nSecondsAreWithinN() {
        dueOdds(on("s410h0h0"), 2, 1, 1);
        dueOdds(on("s411f4f4"), 5, 3, 4);
        dueOdds(on("s411f4f4"), 6, 1, 1);
        dueOdds(on("s210" + times("h4", 8)), 23, 0, 1);
        dueOdds(on("s210" + times("h4", 8)), 24, 1, 1);
    }

    static void promise18_whatTheyAreNowDoesntCount() {
        for (String street : new String[] {"s411f4f4", "s411f4w4", "s411w4f4", "s411w4w4"}) {
            dueOdds(on(street), 3, 1, 4);
            dueOdds(on(street), 4, 3, 4);
        }
    }

    static void promise18_strongKneeAndSoleStay() {
        ScooterFlags x = on("s431h1h0h0#h1");
        dueOdds(x, 4, 1, 1);
        x.sole(0);
        dueOdds(x, 4, 0, 1);
        x.sole(1);
        x.knee(2);
        dueOdds(x, 4, 0, 1);
    }

    static void promise18_readingsDontCount() {
        dueOdds(read("s411f4f4", 6), 3, 1, 4);
        dueOdds(read("s411f4f4", 0, NONE), 3, 1, 4);
    }

    static void promise18_askingChangesNothing() {
        leaves(on("s411f4w4"), x -> x.odds(3, 0), 1);
        leaves(on("s411f4w4"), x -> x.odds(3, 1), 4);
        leaves(rich(), x -> x.odds(0, 0), 0);
    }

    static void promise18_itIsByHowAllIsNow() {
        ScooterFlags x = on("s411f4f4");
        dueOdds(x, 3, 1, 4);
        x.knee(3);
        x.strong(1);
        dueOdds(x, 3, 0, 1);
        dueOdds(x, 6, 1, 1);
    }
}
