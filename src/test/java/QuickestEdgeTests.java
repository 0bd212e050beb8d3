/** The sentences of promises 9 to 11 (and of the document's part 3) that name an edge, each with a test of its own. */
final class QuickestEdgeTests extends Calls {
    /** On a HILL that takes 4 no push of his brings him on: each is walked. */
    private static final String WALKED = "h4";

    public static void main(String[] args) throws InterruptedException {
        runAll(QuickestEdgeTests.class, 9, 11);
    }

    // ---- promise 9

    static void promise09_noStreetIsState() {
        leaves(bare(), x -> x.quickest(), STATE);
    }

    static void promise09_itIs24AtMost() {
        due(on("s210" + times(WALKED, 8)).quickest(), 24);
        due(on("s210" + times(WALKED, 7) + "f0").quickest(), 22);
    }

    static void promise09_if25AreTheFewestItIsNone() {
        due(on("s210" + times(WALKED, 8) + "f0").quickest(), NONE);
        due(on("s210" + times(WALKED, 8) + "f0f0").quickest(), NONE);
        due(on("s210" + times(WALKED, 9)).quickest(), NONE);
    }

    static void promise09_theFewestThatCanBeIs1() {
        due(on("s410f0f0").quickest(), 1);
        due(on("s310f0f0").quickest(), 2);
    }

    static void promise09_theActThatGoesBeyondTheSchoolCounts() {
        due(on("s430f0f0f0").quickest(), 2);
        due(on("s430f0f0f0f0f0").quickest(), 2);
        due(on("s430f0f0f0f0f0f0").quickest(), 3);
    }

    static void promise09_askingChangesNothing() {
        ScooterFlags x = rich();
        int seconds = x.quickest();
        leaves(x, y -> y.quickest(), seconds);
    }

    static void promise09_itIsByHowAllIsNow() {
        ScooterFlags x = on("s110f0f0");
        due(x.quickest(), 4);
        x.knee(2);
        due(x.quickest(), 3);
        x.strong(4);
        due(x.quickest(), 1);
        x.grating(1, true);
        due(x.quickest(), 2);
    }

    static void promise09_aBrakeCanBeTheQuickestWay() {
        ScooterFlags x = on("s411f0f0f0" + times("f0#", 7));
        due(x.quickest(), 9);
        x.sole(0);
        due(x.quickest(), 15);
    }

    static void promise09_asManyPushesAsKneeAreUsed() {
        due(on("s130f0f0h1").quickest(), 5);
        due(on("s120f0f0h1").quickest(), 6);
    }

    static void promise09_aSoleThatIsNotNeededDoesNothing() {
        for (int sole = 0; sole <= 2; sole++) {
            due(on("s41" + sole + "f0f0").quickest(), 1);
        }
    }

    // ---- promise 10

    static void promise10_nBelow0IsOutside() {
        leaves(rich(), x -> x.lightest(-1), OUTSIDE);
        leaves(rich(), x -> x.lightest(MIN), OUTSIDE);
    }

    static void promise10_nAbove24IsOutside() {
        leaves(rich(), x -> x.lightest(25), OUTSIDE);
        leaves(rich(), x -> x.lightest(MAX), OUTSIDE);
    }

    static void promise10_noStreetIsState() {
        leaves(bare(), x -> x.lightest(0), STATE);
        leaves(bare(), x -> x.lightest(24), STATE);
    }

    static void promise10_outsideComesAheadOfState() {
        leaves(bare(), x -> x.lightest(-1), OUTSIDE);
        leaves(bare(), x -> x.lightest(25), OUTSIDE);
    }

    static void promise10_within0SecondsItIsNone() {
        leaves(rich(), x -> x.lightest(0), NONE);
        due(on("s410f0f0").lightest(0), NONE);
    }

    static void promise10_withinFewerThanQuickestItIsNone() {
        due(on("s110f0f0").lightest(3), NONE);
        due(on("s210" + times(WALKED, 8)).lightest(23), NONE);
    }

    static void promise10_nSecondsAreWithinN() {
        due(on("s410f0f0").lightest(1), 1);
        due(on("s110f0f0").lightest(4), 2);
        due(on("s210" + times(WALKED, 8)).lightest(24), 0);
    }

    static void promise10_moreSecondsCanSparePushes() {
        ScooterFlags x = on("s430f0f0f0f0f0f0");
        due(x.lightest(2), NONE);
        due(x.lightest(3), 1);
        due(x.lightest(17), 1);
        due(x.lightest(18), 0);
        due(x.lightest(24), 0);
    }

    static void promise10_theQuickestWayMayBeOfMorePushes() {
        ScooterFlags x = on("s330f0f0f0f0f0f0f0");
        due(x.quickest(), 3);
        due(x.lightest(3), 2);
        due(x.lightest(6), 2);
        due(x.lightest(7), 1);
    }

    static void promise10_aLaterWayOfMorePushesIsNotTheLightest() {
        ScooterFlags x = on("s230f0f0");
        for (int n = 2; n <= 5; n++) {
            due(x.lightest(n), 1);
        }
        due(x.lightest(6), 0);
    }

    static void promise10_aBrakeCanSpareAPush() {
        ScooterFlags x = on("s421f0f0f0w0#f0f0f0#");
        due(x.lightest(5), 2);
        x.sole(0);
        due(x.lightest(5), 3);
    }

    static void promise10_withoutAQuickestItIsNone() {
        due(on("s210" + times(WALKED, 8) + "f0").lightest(24), NONE);
    }

    // ---- promise 11

    static void promise11_flagBelow0IsUnknown() {
        leaves(rich(), x -> x.cost(-1), UNKNOWN);
        leaves(rich(), x -> x.cost(MIN), UNKNOWN);
    }

    static void promise11_flagBehindTheLastIsUnknown() {
        leaves(rich(), x -> x.cost(3), UNKNOWN);
        leaves(rich(), x -> x.cost(MAX), UNKNOWN);
        due(on("s410" + times("f0", 10)).cost(10), UNKNOWN);
    }

    static void promise11_withoutAStreetEachFlagIsUnknown() {
        leaves(bare(), x -> x.cost(0), UNKNOWN);
    }

    static void promise11_aFlagThatTakes0AndHasNoGratingCosts0() {
        due(on("s411f4f0").cost(1), 0);
        due(on("s410f0h0").cost(1), 0);
    }

    static void promise11_aFlagThatTakesCostsItsSeconds() {
        due(on("s411f4f0").cost(0), 3);
        due(on("s410" + times("f0", 9) + "f4").cost(9), 0);
    }

    static void promise11_itsGratingCostsToo() {
        due(on("s430f0f0#").cost(1), 1);
    }

    static void promise11_aHillStaysAHillAndAWetOneAWetOne() {
        due(on("s110h0h4").cost(1), 0);
        due(on("s210h4h4").cost(0), 0);
        due(on("s110w2f0").cost(0), 2);
    }

    static void promise11_below0SoManyMore() {
        due(on("s411f1f1#h1").cost(0), -2);
    }

    static void promise11_noQuickestAsItIsIsNone() {
        ScooterFlags x = on("s410" + times("f4", 8) + "f0");
        due(x.quickest(), NONE);
        due(x.cost(0), NONE);
        due(x.cost(8), NONE);
    }

    static void promise11_noQuickestThenIsNone() {
        ScooterFlags x = on("s420w2#f1#" + times(WALKED, 7) + "h4#");
        due(x.quickest(), 23);
        due(x.cost(0), NONE);
    }

    static void promise11_aQuickestOf24CountsAsOne() {
        ScooterFlags x = on("s210" + times(WALKED, 8));
        due(x.quickest(), 24);
        due(x.cost(0), 0);
        due(x.cost(7), 0);
    }

    static void promise11_strongKneeAndSoleStayAsTheyAre() {
        due(on("s411f0f0f0" + times("f0#", 7)).cost(0), 0);
        due(on("s130f0f0h1").cost(0), 0);
    }

    static void promise11_askingChangesNothing() {
        ScooterFlags x = rich();
        int cost = x.cost(2);
        leaves(x, y -> y.cost(2), cost);
    }

    static void promise11_theFirstFlagAndTheLastHaveACost() {
        ScooterFlags x = on("s411f4f4f4f4");
        due(x.cost(0), 5);
        due(x.cost(3), 2);
    }
}
