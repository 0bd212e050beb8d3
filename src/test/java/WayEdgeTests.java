/** The sentences of promise 8 (and of the document's part 2) that name an edge, each with a test of its own. */
final class WayEdgeTests extends Calls {
    private static final String TEN = times("f0", 10);

    public static void main(String[] args) throws InterruptedException {
        runAll(WayEdgeTests.class, 8, 8);
    }

    private static void dueWay(String street, String acts, int... want) {
        dueWay(on(street), acts, want);
    }

    private static void dueWrong(String street, String acts, int first) {
        dueWrong(on(street), acts, first);
    }

    // ---- what is refused, and the faults

    static void promise08_sheetOutside0To3IsUnknown() {
        for (int k : new int[] {-1, 4, MIN, MAX}) {
            refused(rich(), x -> x.way(k, 1, 0, 1, 0), UNKNOWN, 0);
        }
    }

    static void promise08_unknownComesAheadOfOutside() {
        refused(rich(), x -> x.way(4, 3, 0, 25, 8), UNKNOWN, 0);
    }

    static void promise08_laneOutside0To2IsOutside() {
        for (int lane : new int[] {-1, 3, MIN, MAX}) {
            refused(rich(), x -> x.way(1, lane, 0, 1, 0), OUTSIDE, 0);
        }
    }

    static void promise08_nBelow0IsOutsideAndNoSize() {
        refused(rich(), x -> x.way(1, 1, 0, -1, 0), OUTSIDE, 0);
        refused(rich(), x -> x.way(1, 1, 0, MIN, 0), OUTSIDE, 0);
    }

    static void promise08_nAbove24IsOutside() {
        ScooterFlags x = rich();
        x.sheet(1, 1, 60);
        refused(x, y -> y.way(1, 1, 0, 25, 0), OUTSIDE, 0);
        refused(x, y -> y.way(1, 1, 0, 25, 1), OUTSIDE, 0);
        refused(x, y -> y.way(1, 1, 0, MAX, 0), OUTSIDE, 0);
    }

    static void promise08_whatOutside0To7IsOutside() {
        for (int what : new int[] {-1, 8, MIN, MAX}) {
            refused(rich(), x -> x.way(1, 1, 0, 0, what), OUTSIDE, 0);
        }
    }

    static void promise08_outsideComesAheadOfFaults() {
        refused(rich(), x -> x.way(2, 3, 0, 0, 0), OUTSIDE, 0);
        refused(rich(), x -> x.way(1, 2, 0, 25, 0), OUTSIDE, 0);
        refused(rich(), x -> x.way(2, 1, 0, 0, 8), OUTSIDE, 0);
        refused(rich(), x -> x.way(1, 1, -1, -1, 0), OUTSIDE, 0);
        refused(rich(), x -> x.way(1, 1, -1, 0, 8), OUTSIDE, 0);
    }

    static void promise08_outsideComesAheadOfNoStreet() {
        refused(bare(), x -> x.way(1, 1, 0, 25, 0), OUTSIDE, 0);
        refused(bare(), x -> x.way(1, 1, 0, 0, 8), OUTSIDE, 0);
        refused(bare(), x -> x.way(1, 3, 0, 0, 0), OUTSIDE, 0);
    }

    static void promise08_rowOfAnotherLaneIsCast() {
        refused(rich(), x -> x.way(0, 1, 0, 0, 0), CAST, 2);
        refused(rich(), x -> x.way(0, 2, 0, 0, 0), CAST, 2);
        refused(rich(), x -> x.way(1, 0, 0, 1, 0), CAST, 2);
        refused(rich(), x -> x.way(1, 2, 0, 1, 0), CAST, 2);
        refused(rich(), x -> x.way(3, 0, 0, 0, 0), CAST, 2);
        refused(rich(), x -> x.way(3, 1, 0, 0, 0), CAST, 2);
    }

    static void promise08_nothingIsNullAndNoCast() {
        for (int lane = 0; lane <= 2; lane++) {
            int asked = lane;
            refused(rich(), x -> x.way(2, asked, 0, 0, 0), NULL, 1);
        }
    }

    static void promise08_castComesAheadOfIndex() {
        refused(rich(), x -> x.way(1, 2, -1, 1, 0), CAST, 2);
        refused(rich(), x -> x.way(1, 2, 0, 24, 0), CAST, 2);
    }

    static void promise08_nullComesAheadOfIndex() {
        refused(rich(), x -> x.way(2, 1, -1, 1, 0), NULL, 1);
        refused(rich(), x -> x.way(2, 1, 0, 24, 0), NULL, 1);
    }

    static void promise08_iBelow0IsIndex() {
        refused(rich(), x -> x.way(1, 1, -1, 1, 0), INDEX, 3);
        refused(rich(), x -> x.way(1, 1, MIN, 1, 0), INDEX, 3);
    }

    static void promise08_oneCellBehindTheLastIsIndex() {
        refused(rich(), x -> x.way(1, 1, 0, 6, 0), INDEX, 3);
        refused(rich(), x -> x.way(1, 1, 1, 5, 0), INDEX, 3);
        refused(rich(), x -> x.way(1, 1, 5, 1, 0), INDEX, 3);
        refused(rich(), x -> x.way(1, 1, 0, 24, 0), INDEX, 3);
    }

    static void promise08_cellsBehindTheLastByAWrapAreIndex() {
        refused(rich(), x -> x.way(1, 1, MAX, 1, 0), INDEX, 3);
        refused(rich(), x -> x.way(1, 1, MAX, 24, 0), INDEX, 3);
        refused(rich(), x -> x.way(1, 1, MAX - 23, 24, 0), INDEX, 3);
    }

    static void promise08_noneTakenOutsideTheRowIsIndex() {
        refused(rich(), x -> x.way(1, 1, -1, 0, 0), INDEX, 3);
        refused(rich(), x -> x.way(1, 1, 6, 0, 0), INDEX, 3);
        refused(rich(), x -> x.way(1, 1, MAX, 0, 0), INDEX, 3);
        refused(rich(), x -> x.way(1, 1, MIN, 0, 0), INDEX, 3);
    }

    static void promise08_noneTakenAtTheEndOrOfAnEmptyRowIsAWay() {
        refused(rich(), x -> x.way(1, 1, 5, 0, 0), 0, 0);
        ScooterFlags x = rich();
        x.sheet(1, 1, 0);
        refused(x, y -> y.way(1, 1, 0, 0, 1), NONE, 0);
        refused(x, y -> y.way(1, 1, 1, 0, 1), INDEX, 3);
    }

    static void promise08_faultsComeAheadOfNoStreet() {
        refused(bare(), x -> x.way(1, 2, 0, 0, 0), CAST, 2);
        refused(bare(), x -> x.way(2, 1, 0, 0, 0), NULL, 1);
        refused(bare(), x -> x.way(1, 1, 0, 6, 0), INDEX, 3);
        refused(bare(), x -> x.way(1, 1, 6, 0, 0), INDEX, 3);
    }

    static void promise08_noStreetIsState() {
        for (int what = 0; what <= 7; what++) {
            int asked = what;
            refused(bare(), x -> x.way(1, 1, 0, 0, asked), STATE, 0);
        }
    }

    static void promise08_noStreetComesAheadOfCellsThatAreNoActs() {
        refused(bare(), x -> x.way(3, 2, 0, 2, 0), STATE, 0);
    }

    static void promise08_aCellOutside0To4IsOutside() {
        for (int v : new int[] {-1, 5, MIN, MAX, 256, 65536, -256}) {
            ScooterFlags x = rich();
            x.put(3, 0, v);
            refused(x, y -> y.way(3, 2, 0, 1, 0), OUTSIDE, 0);
        }
    }

    static void promise08_aCellThatIsNoActIsOutsideForEachWhat() {
        for (int what = 0; what <= 7; what++) {
            int asked = what;
            refused(rich(), x -> x.way(3, 2, 0, 1, asked), OUTSIDE, 0);
        }
    }

    static void promise08_aCellThatIsNoActIsOutsideBehindAFirstWrongToo() {
        ScooterFlags x = rich();
        x.sheet(3, 2, 3);
        x.put(3, 0, 2);
        x.put(3, 2, 5);
        refused(x, y -> y.way(3, 2, 0, 3, 1), OUTSIDE, 0);
        refused(x, y -> y.way(3, 2, 0, 3, 0), OUTSIDE, 0);
        refused(x, y -> y.way(3, 2, 0, 2, 1), 0, 0);
        refused(x, y -> y.way(3, 2, 0, 2, 0), -100, 0);
    }

    static void promise08_aCellThatIsNoActIsOutsideBehindTheSchoolToo() {
        ScooterFlags x = on("s410f0f0");
        x.sheet(3, 2, 2);
        x.put(3, 1, -1);
        due(x.way(3, 2, 0, 1, 2), 2);
        due(x.way(3, 2, 0, 2, 2), OUTSIDE);
    }

    static void promise08_cellsAheadOfTheWayAndBehindItAreNotLookedAt() {
        ScooterFlags x = rich();
        x.sheet(3, 2, 4);
        x.put(3, 0, 5);
        x.put(3, 1, 1);
        x.put(3, 2, 1);
        x.put(3, 3, -1);
        refused(x, y -> y.way(3, 2, 1, 2, 0), 2, 0);
        refused(x, y -> y.way(3, 2, 0, 2, 0), OUTSIDE, 0);
        refused(x, y -> y.way(3, 2, 1, 3, 0), OUTSIDE, 0);
    }

    static void promise08_aWayOfEachLaneAndSheetIsOne() {
        for (int k = 0; k <= 3; k++) {
            for (int lane = 0; lane <= 2; lane++) {
                ScooterFlags x = on("s110" + TEN);
                x.sheet(k, lane, 2);
                x.put(k, 0, 4);
                x.put(k, 1, 1);
                due(x.way(k, lane, 0, 2, 0), 4);
            }
        }
    }

    static void promise08_asManyAs24ActsAreAWay() {
        dueWay("s110f0f0", times("1", 24), 24, 0, 0, 0, 0, 0, 0);
        dueWay("s110f0f0", times("1", 23), 23, 0, 0, 1, 0, 0, 0);
    }

    static void promise08_aWayChangesNothing() {
        ScooterFlags x = rich();
        refused(x, y -> y.way(1, 1, 0, 1, 7), 1, 0);
        x.sheet(1, 1, 2);
        x.put(1, 1, 3);
        refused(x, y -> y.way(1, 1, 0, 2, 6), 1, 0);
        refused(x, y -> y.way(1, 1, 0, 2, 6), 1, 0);
    }

    // ---- how he begins

    static void promise08_aWayWithoutActsIsHowHeBegins() {
        dueWay("s321f1h0", "", 0, 0, 0, 0, 0, 1, 0);
        dueWay("s430w4#f0#", "", 0, 0, 0, 0, 0, 0, 0);
    }

    static void promise08_eachWayBeginsAnew() {
        ScooterFlags x = on("s112" + TEN);
        dueWay(x, "03", 2, 0, 0, 0, 1, 1, 1);
        dueWay(x, "03", 2, 0, 0, 0, 1, 1, 1);
        dueWay(x, "1", 1, 0, 0, 1, 0, 2, 0);
        dueWay(x, "", 0, 0, 0, 0, 0, 2, 0);
    }

    static void promise08_eachWayBeginsOnTheLeftFootWithBothKneesFresh() {
        ScooterFlags x = on("s112" + TEN);
        for (int k = 0; k < 3; k++) {
            due(ride(x, "10", 4), 1);
            due(ride(x, "", 4), 0);
            due(ride(x, "10", 5), 1);
            due(ride(x, "", 5), 0);
        }
    }

    // ---- 0 push

    static void promise08_paceIs6AtMost() {
        dueWay("s430" + TEN, "00", 2, 5, 6, 0, 2, 0, 2);
        dueWay("s330" + TEN, "00", 2, 4, 6, 0, 2, 0, 2);
        dueWay("s230" + TEN, "000", 3, 6, 6, 0, 3, 0, 3);
    }

    static void promise08_paceIs6AtMostAheadOfTheDrag() {
        dueWay("s430f0f0f1" + times("f0", 7), "00", 2, 4, 5, 0, 2, 0, 2);
        dueWay("s430f0f0h4" + times("f0", 7), "00", 2, 2, 1, 0, 2, 0, 2);
    }

    static void promise08_noPushWithPace6() {
        dueWrong("s430" + TEN, "000", 2);
        dueWrong("s430" + TEN, "0010", 3);
    }

    static void promise08_aPushWithPace5CanBe() {
        dueWay("s430f0f0f1" + times("f0", 7), "000", 3, 7, 6, 0, 3, 0, 3);
    }

    static void promise08_noPushWithAsManyOfTheKneeAsKnee() {
        dueWay("s110" + TEN, "0", 1, 0, 1, 0, 1, 0, 1);
        dueWrong("s110" + TEN, "00", 1);
        dueWay("s120" + TEN, "00", 2, 1, 2, 0, 2, 0, 2);
        dueWrong("s120" + TEN, "000", 2);
        dueWay("s130" + TEN, "000", 3, 2, 3, 0, 3, 0, 3);
        dueWrong("s130" + TEN, "0000", 3);
    }

    static void promise08_kneeIsWhatItBecame() {
        ScooterFlags x = on("s110" + TEN);
        x.knee(2);
        dueWay(x, "00", 2, 1, 2, 0, 2, 0, 2);
        x.knee(1);
        due(ride(x, "00", 1), 1);
    }

    // ---- 1 change over

    static void promise08_theOtherKneeIsFresh() {
        dueWay("s110" + TEN, "01", 2, 0, 1, 1, 0, 0, 1);
        dueWay("s110" + TEN, "010", 3, 1, 2, 1, 1, 0, 2);
        dueWrong("s110" + TEN, "0100", 3);
    }

    static void promise08_theKneeThatWasTiredIsFreshAsHeComesBackToIt() {
        dueWay("s110" + TEN, "011", 3, 0, 1, 0, 0, 0, 1);
        dueWay("s110" + TEN, "01010", 5, 3, 3, 0, 1, 0, 3);
    }

    static void promise08_aChangeWithPace0CanBe() {
        dueWay("s110f4f0", "1", 1, 0, 0, 1, 0, 0, 0);
        dueWay("s110f4f0", "11", 2, 0, 0, 0, 0, 0, 0);
    }

    static void promise08_aChangeDragsAndGoesOn() {
        dueWay("s410f0f0f1f0f0", "01", 2, 3, 3, 1, 0, 0, 1);
    }

    // ---- 2 glide

    static void promise08_noGlideWithPace0() {
        dueWrong("s110f0f0", "2", 0);
        dueWrong("s110f1f0", "02", 1);
        dueWrong("s410" + TEN, "42", 1);
    }

    static void promise08_aGlideWithPace1CanBe() {
        dueWay("s110f0f0", "02", 2, 0, 1, 0, 1, 0, 1);
    }

    static void promise08_aGlideDragsAndGoesOn() {
        dueWay("s410f0f0f2f0f0", "02", 2, 3, 2, 0, 1, 0, 1);
    }

    // ---- 3 brake

    static void promise08_noBrakeWithPace0() {
        dueWrong("s112f0f0", "3", 0);
        dueWrong("s112f1f0", "03", 1);
    }

    static void promise08_noBrakeWithoutSole() {
        dueWrong("s410" + TEN, "03", 1);
        dueWay("s431" + TEN, "03", 2, 3, 2, 0, 1, 0, 1);
        dueWrong("s431" + TEN, "033", 2);
        dueWrong("s431" + TEN, "0303", 3);
    }

    static void promise08_aSoleOf2BrakesTwice() {
        dueWay("s432" + TEN, "0303", 4, 8, 4, 0, 2, 0, 2);
        dueWrong("s432" + TEN, "03033", 4);
    }

    static void promise08_aBrakeWithPace1LeavesPace0() {
        dueWay("s111" + TEN, "03", 2, 0, 0, 0, 1, 0, 1);
    }

    static void promise08_aBrakeWithPace2LeavesPace0AndWith3LeavesPace1() {
        dueWay("s211" + TEN, "03", 2, 1, 0, 0, 1, 0, 1);
        dueWay("s311" + TEN, "03", 2, 1, 1, 0, 1, 0, 1);
    }

    static void promise08_behindABrakeHeIsDraggedToPace0AtLeast() {
        dueWay("s411f0f0f3f0", "03", 2, 2, 0, 0, 1, 0, 1);
    }

    // ---- 4 carry

    static void promise08_aCarryTakes3SecondsAndGoes1FlagWithPace0() {
        dueWay("s430" + TEN, "04", 4, 3, 0, 0, 0, 0, 1);
        dueWay("s110h4h4f0", "4", 3, 1, 0, 0, 0, 0, 0);
    }

    static void promise08_aCarryMakesTheKneeFresh() {
        dueWay("s110" + TEN, "040", 5, 1, 1, 0, 1, 0, 2);
        dueWay("s110" + TEN, "01040", 7, 2, 1, 1, 1, 0, 3);
    }

    static void promise08_aCarryLeavesFootAndSole() {
        dueWay("s111" + TEN, "14", 4, 1, 0, 1, 0, 1, 0);
        dueWay("s411" + TEN, "034", 5, 4, 0, 0, 0, 0, 1);
    }

    static void promise08_aCarryToAFlagWithAGrating() {
        dueWay("s410f0f0#f0f0", "40", 4, 3, 4, 0, 1, 0, 1);
    }

    static void promise08_secondsMayBeAbove24() {
        dueWay("s110" + TEN, times("4", 10), 30, 10, 0, 0, 0, 0, 0);
        dueWay("s110" + TEN, times("1", 14) + times("4", 10), 44, 10, 0, 0, 0, 0, 0);
    }

    // ---- drag, going on

    static void promise08_paceIs0AtLeastBehindTheDrag() {
        dueWay("s110h4f0", "0", 1, 0, 0, 0, 1, 0, 1);
        dueWay("s410f4f0", "0", 1, 0, 0, 0, 1, 0, 1);
        dueWay("s410h4f0", "0", 1, 0, 0, 0, 1, 0, 1);
    }

    static void promise08_paceIsLessByTheDragOfItsKind() {
        dueWay("s410f3f0", "0", 1, 0, 1, 0, 1, 0, 1);
        dueWay("s410h3f0", "0", 1, 0, 0, 0, 1, 0, 1);
        dueWay("s410w3f0", "0", 1, 1, 3, 0, 1, 0, 1);
        dueWay("s110w1f0", "0", 1, 0, 1, 0, 1, 0, 1);
        dueWay("s110w2f0", "0", 1, 0, 0, 0, 1, 0, 1);
    }

    static void promise08_theDragIsOfTheFlagWhereHeIsAheadOfGoingOn() {
        dueWay("s410f0h4h4f0", "0", 1, 2, 4, 0, 1, 0, 1);
        dueWay("s410f2f0f0f0", "0", 1, 1, 2, 0, 1, 0, 1);
    }

    static void promise08_halfOfPaceIsCut() {
        dueWay("s110" + TEN, "0", 1, 0, 1, 0, 1, 0, 1);
        dueWay("s210" + TEN, "0", 1, 1, 2, 0, 1, 0, 1);
        dueWay("s310" + TEN, "0", 1, 1, 3, 0, 1, 0, 1);
        dueWay("s410" + TEN, "0", 1, 2, 4, 0, 1, 0, 1);
        dueWay("s430f0f0f1" + times("f0", 7), "00", 2, 4, 5, 0, 2, 0, 2);
        dueWay("s330" + TEN, "00", 2, 4, 6, 0, 2, 0, 2);
    }

    // ---- gratings

    static void promise08_aGratingStopsPace4AndNotPace3() {
        dueWay("s410f0f0#f0f0", "0", 1, 1, 0, 0, 1, 0, 1);
        dueWay("s310f0f0#f0f0", "0", 1, 1, 3, 0, 1, 0, 1);
        dueWay("s210f0f0#f0f0", "0", 1, 1, 2, 0, 1, 0, 1);
    }

    static void promise08_aGratingStopsPace5AndPace6() {
        dueWay("s430f0f0f1f0#" + times("f0", 6), "00", 2, 3, 0, 0, 2, 0, 2);
        dueWay("s430f0f0f0f0#" + times("f0", 6), "00", 2, 3, 0, 0, 2, 0, 2);
    }

    static void promise08_paceOfTheGratingIsBehindTheDrag() {
        dueWay("s410f1f0#f0f0", "0", 1, 1, 3, 0, 1, 0, 1);
        dueWay("s430f0f0f2f0#" + times("f0", 6), "00", 2, 3, 0, 0, 2, 0, 2);
        dueWay("s430f0f0f3f0#" + times("f0", 6), "00", 2, 3, 3, 0, 2, 0, 2);
    }

    static void promise08_aGratingOnTheLastOfTheFlagsThatHeComesTo() {
        dueWay("s410f0f0f0#f0", "0", 1, 2, 0, 0, 1, 0, 1);
        dueWay("s330f0f0f0f0f0#f0", "00", 2, 4, 0, 0, 2, 0, 2);
    }

    static void promise08_aGratingThatHeDoesntComeToDoesNothing() {
        dueWay("s410f0f0f0f0#f0", "0", 1, 2, 4, 0, 1, 0, 1);
    }

    static void promise08_aGratingOfTheFlagWhereHeIsDoesNothing() {
        dueWay("s410f0#f0f0f0", "0", 1, 2, 4, 0, 1, 0, 1);
        dueWay("s420f0f0#f0f0f0", "00", 2, 3, 4, 0, 2, 0, 2);
    }

    static void promise08_theFirstGratingStopsHim() {
        dueWay("s410f0f0#f0#f0", "0", 1, 1, 0, 0, 1, 0, 1);
        dueWay("s330f0f0f0#f0#f0#f0", "00", 2, 2, 0, 0, 2, 0, 2);
    }

    static void promise08_stoppedByAGratingHeCantGlideOrBrake() {
        dueWrong("s412f0f0#f0f0", "02", 1);
        dueWrong("s412f0f0#f0f0", "03", 1);
    }

    static void promise08_stoppedByAGratingTheKneeStaysTired() {
        dueWrong("s412f0f0#f0f0", "00", 1);
        dueWay("s410f0f0#f0f0", "010", 3, 3, 4, 1, 1, 0, 2);
    }

    static void promise08_aGratingOnTheLastFlagKeepsHimFromTheSchool() {
        dueWay("s430f0f0#", "0", 1, 1, 0, 0, 1, 0, 1);
        dueWay("s330f0f0f0#", "00", 2, 2, 0, 0, 2, 0, 2);
    }

    static void promise08_aGratingIsAsItBecame() {
        ScooterFlags x = on("s410f0f0#f0f0");
        x.grating(1, false);
        dueWay(x, "0", 1, 2, 4, 0, 1, 0, 1);
        x.grating(2, true);
        dueWay(x, "0", 1, 2, 0, 0, 1, 0, 1);
    }

    // ---- the school

    static void promise08_atTheSchoolTheFlagIsAsManyAsThereAre() {
        dueWay("s410f0f0", "0", 1, 2, 4, 0, 1, 0, 1);
        dueWay("s110f0f0", "44", 6, 2, 0, 0, 0, 0, 0);
        dueWay("s430" + TEN, "0012", 4, 10, 6, 1, 0, 0, 2);
    }

    static void promise08_beyondTheSchoolHeGoesNoFurther() {
        dueWay("s430f0f0f0", "00", 2, 3, 6, 0, 2, 0, 2);
        dueWay("s310f0f0", "02", 2, 2, 3, 0, 1, 0, 1);
    }

    static void promise08_theSchoolHasNoGrating() {
        ScooterFlags x = on("s430" + times("f0#", 10));
        take(x, "s430f0f0");
        dueWay(x, "0", 1, 2, 4, 0, 1, 0, 1);
    }

    static void promise08_eachActBehindTheSchoolCantBe() {
        for (int act = 0; act <= 4; act++) {
            dueWrong("s432f0f0", "0" + act, 1);
            dueWrong("s432f0f0", "44" + act, 2);
        }
    }

    // ---- the first wrong

    static void promise08_theFirstActCanBeTheFirstWrong() {
        dueWrong("s110f0f0", "2000", 0);
    }

    static void promise08_theLastOf24ActsCanBeTheFirstWrong() {
        dueWrong("s110f0f0", times("1", 23) + "2", 23);
        dueWrong("s110f0f0", times("1", 22) + "21", 22);
    }

    static void promise08_theFirstOfManyWrongOnesIsTold() {
        dueWrong("s110f0f0", "0020", 1);
        dueWrong("s110f0f0", "133333", 1);
    }

    static void promise08_withoutAFirstWrongItIsNone() {
        due(ride(on("s110f0f0"), "0", 1), NONE);
        due(ride(on("s110f0f0"), "44", 1), NONE);
    }
}
