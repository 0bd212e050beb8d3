/** The sentences of promises 19 to 29 (and of the document's part 5) that name an edge, each with a test of its own. */
final class SheetEdgeTests extends Calls {
    public static void main(String[] args) throws InterruptedException {
        runAll(SheetEdgeTests.class, 19, 29);
    }

    private static void dueCells(ScooterFlags x, int k, int lane, long... want) {
        for (int i = 0; i < want.length; i++) {
            due("cell " + i + " of " + k, x.cell(k, i, lane), want[i]);
        }
    }

    /** Sheet 0 has 1 .. 5 as shorts, sheet 1 has 11 .. 13, sheet 2 nothing, sheet 3 one int. */
    private static ScooterFlags rows() {
        ScooterFlags x = new ScooterFlags();
        x.sheet(0, 1, 5);
        for (int i = 0; i < 5; i++) {
            x.put(0, i, i + 1);
        }
        x.sheet(1, 1, 3);
        for (int i = 0; i < 3; i++) {
            x.put(1, i, i + 11);
        }
        x.sheet(3, 2, 1);
        return x;
    }

    // ---- promise 19

    static void promise19_sheetOutside0To3IsUnknown() {
        for (int k : new int[] {-1, 4, MIN, MAX}) {
            refused(rich(), x -> x.sheet(k, 0, 1), UNKNOWN, 0);
        }
    }

    static void promise19_unknownComesAheadOfOutside() {
        refused(rich(), x -> x.sheet(4, 3, 61), UNKNOWN, 0);
        refused(rich(), x -> x.sheet(-1, -1, -1), UNKNOWN, 0);
    }

    static void promise19_laneOutside0To2IsOutside() {
        for (int lane : new int[] {-1, 3, MIN, MAX}) {
            refused(rich(), x -> x.sheet(0, lane, 1), OUTSIDE, 0);
        }
    }

    static void promise19_nAbove60IsOutside() {
        refused(rich(), x -> x.sheet(0, 0, 61), OUTSIDE, 0);
        refused(rich(), x -> x.sheet(2, 2, MAX), OUTSIDE, 0);
    }

    static void promise19_nBelow0IsSizeAndTheOldRowStays() {
        refused(rich(), x -> x.sheet(0, 0, -1), SIZE, 4);
        refused(rich(), x -> x.sheet(1, 2, -1), SIZE, 4);
        refused(rich(), x -> x.sheet(2, 0, MIN), SIZE, 4);
    }

    static void promise19_outsideComesAheadOfSize() {
        refused(rich(), x -> x.sheet(0, 3, -1), OUTSIDE, 0);
        refused(rich(), x -> x.sheet(0, -1, MIN), OUTSIDE, 0);
    }

    static void promise19_aRowOfNoneIsARow() {
        ScooterFlags x = new ScooterFlags();
        due(x.sheet(0, 1, 0), 1);
        due(x.fault(), 0);
        due(x.put(0, 0, 1), INDEX);
        due(x.cell(0, 0, 0), LOST);
        due(x.fault(), 2);
        due(x.lose(0), 1);
    }

    static void promise19_aRowOf60IsARow() {
        for (int lane = 0; lane <= 2; lane++) {
            ScooterFlags x = new ScooterFlags();
            due(x.sheet(3, lane, 60), 1);
            for (int i = 0; i < 60; i++) {
                due(x.cell(3, i, lane), 0);
            }
            due(x.put(3, 59, 7), 1);
            due(x.cell(3, 59, lane), 7);
            due(x.put(3, 60, 7), INDEX);
        }
    }

    static void promise19_aNewRowHas0InEachCell() {
        ScooterFlags x = rows();
        due(x.sheet(0, 1, 5), 1);
        dueCells(x, 0, 1, 0, 0, 0, 0, 0);
        due(x.sheet(1, 1, 1), 1);
        due(x.sheet(1, 1, 3), 1);
        dueCells(x, 1, 1, 0, 0, 0, LOST);
    }

    static void promise19_aNewRowBehindALostOneHas0InEachCell() {
        ScooterFlags x = rows();
        x.lose(0);
        due(x.sheet(0, 1, 5), 1);
        dueCells(x, 0, 1, 0, 0, 0, 0, 0, LOST);
    }

    static void promise19_aNewRowIsOfItsOwnLaneAndLength() {
        ScooterFlags x = rows();
        due(x.sheet(0, 0, 2), 1);
        due(x.cell(0, 0, 1), LOST);
        due(x.fault(), 2);
        dueCells(x, 0, 0, 0, 0, LOST);
        due(x.put(0, 0, 128), 1);
        due(x.cell(0, 0, 0), -128);
    }

    static void promise19_otherSheetsStay() {
        ScooterFlags x = rows();
        x.sheet(0, 2, 3);
        dueCells(x, 1, 1, 11, 12, 13, LOST);
        due(x.put(2, 0, 0), NULL);
    }

    // ---- promise 20

    static void promise20_sheetOutside0To3IsUnknown() {
        for (int k : new int[] {-1, 4, MIN, MAX}) {
            leaves(rich(), x -> x.lose(k), UNKNOWN);
        }
    }

    static void promise20_itHadNothingIs0() {
        leaves(rich(), x -> x.lose(2), 0);
        ScooterFlags x = new ScooterFlags();
        for (int k = 0; k <= 3; k++) {
            due(x.lose(k), 0);
        }
    }

    static void promise20_itHadARowIs1AndThenNothing() {
        ScooterFlags x = rows();
        due(x.lose(0), 1);
        due(x.put(0, 0, 1), NULL);
        due(x.lose(0), 0);
        dueCells(x, 1, 1, 11, 12, 13);
    }

    static void promise20_anEmptyRowIsNotNothing() {
        ScooterFlags x = new ScooterFlags();
        x.sheet(1, 0, 0);
        due(x.lose(1), 1);
        due(x.lose(1), 0);
    }

    static void promise20_theStreetStays() {
        ScooterFlags x = rich();
        int seconds = x.quickest();
        due(x.lose(0), 1);
        due(x.many(0), 3);
        due(x.quickest(), seconds);
    }

    // ---- promise 21

    static void promise21_sheetOutside0To3IsUnknown() {
        for (int k : new int[] {-1, 4, MIN, MAX}) {
            refused(rich(), x -> x.put(k, 0, 1), UNKNOWN, 0);
            refused(rich(), x -> x.put(k, -1, 1), UNKNOWN, 0);
        }
    }

    static void promise21_nothingIsNull() {
        refused(rich(), x -> x.put(2, 0, 1), NULL, 1);
    }

    static void promise21_nullComesAheadOfIndex() {
        refused(rich(), x -> x.put(2, -1, 1), NULL, 1);
        refused(rich(), x -> x.put(2, 60, 1), NULL, 1);
    }

    static void promise21_iBelow0IsIndex() {
        refused(rich(), x -> x.put(0, -1, 1), INDEX, 3);
        refused(rich(), x -> x.put(0, MIN, 1), INDEX, 3);
    }

    static void promise21_iBehindTheLastIsIndex() {
        refused(rich(), x -> x.put(0, 11, 1), INDEX, 3);
        refused(rich(), x -> x.put(1, 5, 1), INDEX, 3);
        refused(rich(), x -> x.put(0, MAX, 1), INDEX, 3);
    }

    static void promise21_ofAnEmptyRowEachIsIndex() {
        ScooterFlags x = rich();
        x.sheet(0, 0, 0);
        refused(x, y -> y.put(0, 0, 1), INDEX, 3);
    }

    static void promise21_theFirstCellAndTheLastCanBecomeV() {
        ScooterFlags x = rows();
        due(x.put(0, 0, -7), 1);
        due(x.put(0, 4, 9), 1);
        due(x.fault(), 0);
        dueCells(x, 0, 1, -7, 2, 3, 4, 9, LOST);
    }

    private static void dueCut(int lane, int[] v, int[] want) {
        ScooterFlags x = new ScooterFlags();
        x.sheet(0, lane, 3);
        for (int k = 0; k < v.length; k++) {
            due("put " + v[k], x.put(0, 1, v[k]), 1);
            dueCells(x, 0, lane, 0, want[k], 0);
        }
    }

    static void promise21_aByteIsCutWithItsSign() {
        dueCut(0, new int[] {127, 128, 129, 255, 256, 383, 384, -128, -129, -256, 32767, 32768, MAX, MIN, MIN + 128},
            new int[] {127, -128, -127, -1, 0, 127, -128, -128, 127, 0, -1, 0, -1, 0, -128});
    }

    static void promise21_aShortIsCutWithItsSign() {
        dueCut(1, new int[] {127, 128, 255, 32767, 32768, 65535, 65536, -32768, -32769, MAX, MIN, MIN + 32768},
            new int[] {127, 128, 255, 32767, -32768, -1, 0, -32768, 32767, -1, 0, -32768});
    }

    static void promise21_anIntIsWhole() {
        dueCut(2, new int[] {127, 128, 32768, -32769, 65536, MAX, MIN, -1},
            new int[] {127, 128, 32768, -32769, 65536, MAX, MIN, -1});
    }

    // ---- promise 22

    static void promise22_sheetOutside0To3IsLostAndNoFault() {
        for (int k : new int[] {-1, 4, MIN, MAX}) {
            refused(rich(), x -> x.cell(k, 0, 0), LOST, 0);
        }
    }

    static void promise22_laneOutside0To2IsLostAndNoFault() {
        for (int lane : new int[] {-1, 3, MIN, MAX}) {
            refused(rich(), x -> x.cell(0, 0, lane), LOST, 0);
        }
    }

    static void promise22_refusalsComeAheadOfFaults() {
        refused(rich(), x -> x.cell(4, -1, 0), LOST, 0);
        refused(rich(), x -> x.cell(2, 0, 3), LOST, 0);
        refused(rich(), x -> x.cell(0, 60, -1), LOST, 0);
    }

    static void promise22_rowOfAnotherLaneIsCast() {
        refused(rich(), x -> x.cell(0, 0, 1), LOST, 2);
        refused(rich(), x -> x.cell(0, 0, 2), LOST, 2);
        refused(rich(), x -> x.cell(1, 0, 0), LOST, 2);
        refused(rich(), x -> x.cell(1, 0, 2), LOST, 2);
        refused(rich(), x -> x.cell(3, 0, 0), LOST, 2);
        refused(rich(), x -> x.cell(3, 0, 1), LOST, 2);
    }

    static void promise22_castComesAheadOfIndex() {
        refused(rich(), x -> x.cell(0, -1, 1), LOST, 2);
        refused(rich(), x -> x.cell(0, 11, 2), LOST, 2);
    }

    static void promise22_nothingIsNullAndNoCast() {
        for (int lane = 0; lane <= 2; lane++) {
            int asked = lane;
            refused(rich(), x -> x.cell(2, 0, asked), LOST, 1);
            refused(rich(), x -> x.cell(2, -1, asked), LOST, 1);
        }
    }

    static void promise22_whatIsLostIsNullAndNoCast() {
        for (int lane = 0; lane <= 2; lane++) {
            int asked = lane;
            ScooterFlags x = rich();
            x.lose(1);
            refused(x, y -> y.cell(1, 0, asked), LOST, 1);
        }
    }

    static void promise22_iOutsideTheRowIsIndex() {
        for (int i : new int[] {-1, 11, MIN, MAX}) {
            refused(rich(), x -> x.cell(0, i, 0), LOST, 3);
        }
    }

    static void promise22_ofAnEmptyRowEachIsIndex() {
        ScooterFlags x = rich();
        x.sheet(0, 0, 0);
        refused(x, y -> y.cell(0, 0, 0), LOST, 3);
    }

    static void promise22_theFirstCellAndTheLastAreThere() {
        refused(rich(), x -> x.cell(0, 0, 0), 's', 0);
        refused(rich(), x -> x.cell(0, 10, 0), '4', 0);
        refused(rich(), x -> x.cell(1, 4, 1), 4, 0);
    }

    static void promise22_theLeastIntIsNotLost() {
        refused(rich(), x -> x.cell(3, 1, 2), MIN, 0);
    }

    // ---- promise 23

    static void promise23_sheetOutside0To3IsUnknown() {
        for (int k : new int[] {-1, 4, MIN, MAX}) {
            refused(rich(), x -> x.copy(k, 0, 0, 0, 1), UNKNOWN, 0);
            refused(rich(), x -> x.copy(0, 0, k, 0, 1), UNKNOWN, 0);
        }
    }

    static void promise23_unknownComesAheadOfFaults() {
        refused(rich(), x -> x.copy(2, 0, 4, 0, 1), UNKNOWN, 0);
        refused(rich(), x -> x.copy(-1, 0, 2, 0, 1), UNKNOWN, 0);
        refused(rich(), x -> x.copy(0, -1, 4, 0, -1), UNKNOWN, 0);
    }

    static void promise23_nothingInTheFirstIsNull() {
        refused(rich(), x -> x.copy(2, 0, 0, 0, 1), NULL, 1);
        refused(rich(), x -> x.copy(2, 0, 3, 0, 0), NULL, 1);
    }

    static void promise23_nothingInTheOtherIsNull() {
        refused(rich(), x -> x.copy(0, 0, 2, 0, 1), NULL, 1);
        refused(rich(), x -> x.copy(3, 0, 2, 0, 0), NULL, 1);
        refused(rich(), x -> x.copy(2, 0, 2, 0, 0), NULL, 1);
    }

    static void promise23_nullComesAheadOfIndex() {
        refused(rich(), x -> x.copy(2, -1, 0, 0, 1), NULL, 1);
        refused(rich(), x -> x.copy(0, 0, 2, -1, -1), NULL, 1);
    }

    static void promise23_unlikeLanesAreCast() {
        int[] there = {0, 1, 3};
        for (int k : there) {
            for (int other : there) {
                if (k != other) {
                    refused(rich(), x -> x.copy(k, 0, other, 0, 1), CAST, 2);
                }
            }
        }
    }

    static void promise23_unlikeLanesAreCastIfNoneIsTakenToo() {
        refused(rich(), x -> x.copy(0, 0, 1, 0, 0), CAST, 2);
    }

    static void promise23_castComesAheadOfIndex() {
        refused(rich(), x -> x.copy(0, -1, 1, 0, 1), CAST, 2);
        refused(rich(), x -> x.copy(0, 0, 1, 9, 1), CAST, 2);
        refused(rich(), x -> x.copy(0, 0, 1, 0, -1), CAST, 2);
    }

    static void promise23_nBelow0IsIndexAndNoSize() {
        refused(rich(), x -> x.copy(0, 0, 0, 0, -1), INDEX, 3);
        refused(rich(), x -> x.copy(0, 5, 0, 5, MIN), INDEX, 3);
    }

    static void promise23_iBelow0IsIndex() {
        refused(rich(), x -> x.copy(0, -1, 0, 0, 1), INDEX, 3);
        refused(rich(), x -> x.copy(0, -1, 0, 0, 0), INDEX, 3);
        refused(rich(), x -> x.copy(0, MIN, 0, 0, 1), INDEX, 3);
    }

    static void promise23_jBelow0IsIndex() {
        refused(rich(), x -> x.copy(0, 0, 0, -1, 1), INDEX, 3);
        refused(rich(), x -> x.copy(0, 0, 0, -1, 0), INDEX, 3);
        refused(rich(), x -> x.copy(0, 0, 0, MIN, 1), INDEX, 3);
    }

    private static ScooterFlags twoRowsOfBytes() {
        ScooterFlags x = rich();
        x.sheet(2, 0, 3);
        return x;
    }

    static void promise23_cellsBehindTheLastOfTheFirstAreIndex() {
        refused(twoRowsOfBytes(), x -> x.copy(2, 0, 0, 0, 4), INDEX, 3);
        refused(twoRowsOfBytes(), x -> x.copy(2, 1, 0, 0, 3), INDEX, 3);
        refused(twoRowsOfBytes(), x -> x.copy(2, 3, 0, 0, 1), INDEX, 3);
        refused(twoRowsOfBytes(), x -> x.copy(2, 4, 0, 0, 0), INDEX, 3);
    }

    static void promise23_cellsBehindTheLastOfTheOtherAreIndex() {
        refused(twoRowsOfBytes(), x -> x.copy(0, 0, 2, 0, 4), INDEX, 3);
        refused(twoRowsOfBytes(), x -> x.copy(0, 0, 2, 1, 3), INDEX, 3);
        refused(twoRowsOfBytes(), x -> x.copy(0, 0, 2, 3, 1), INDEX, 3);
        refused(twoRowsOfBytes(), x -> x.copy(0, 0, 2, 4, 0), INDEX, 3);
    }

    static void promise23_cellsBehindTheLastByAWrapAreIndex() {
        refused(rich(), x -> x.copy(0, MAX, 0, 0, 1), INDEX, 3);
        refused(rich(), x -> x.copy(0, 0, 0, MAX, 1), INDEX, 3);
        refused(rich(), x -> x.copy(0, 1, 0, 0, MAX), INDEX, 3);
        refused(rich(), x -> x.copy(0, 0, 0, 1, MAX), INDEX, 3);
        refused(rich(), x -> x.copy(0, MAX, 0, MAX, MAX), INDEX, 3);
        refused(rich(), x -> x.copy(0, MAX, 0, MAX, 0), INDEX, 3);
    }

    static void promise23_noneFromTheEndsChangesNothing() {
        refused(rich(), x -> x.copy(0, 11, 0, 11, 0), 0, 0);
        refused(twoRowsOfBytes(), x -> x.copy(0, 11, 2, 3, 0), 0, 0);
        refused(twoRowsOfBytes(), x -> x.copy(2, 0, 0, 0, 0), 0, 0);
    }

    static void promise23_emptyRowsCopyNone() {
        ScooterFlags x = rich();
        x.sheet(0, 2, 0);
        x.sheet(2, 2, 0);
        refused(x, y -> y.copy(0, 0, 2, 0, 0), 0, 0);
        refused(x, y -> y.copy(0, 0, 2, 0, 1), INDEX, 3);
        refused(x, y -> y.copy(0, 1, 2, 0, 0), INDEX, 3);
    }

    static void promise23_theLastCellsOfBothAreCopied() {
        ScooterFlags x = rows();
        due(x.copy(0, 2, 1, 0, 3), 3);
        due(x.fault(), 0);
        dueCells(x, 1, 1, 3, 4, 5, LOST);
        dueCells(x, 0, 1, 1, 2, 3, 4, 5, LOST);
        due(x.copy(1, 2, 0, 4, 1), 1);
        due(x.copy(0, 0, 1, 2, 1), 1);
        dueCells(x, 1, 1, 3, 4, 1, LOST);
    }

    static void promise23_cellsBesideThoseThatComeStay() {
        ScooterFlags x = rows();
        due(x.copy(1, 1, 0, 2, 1), 1);
        dueCells(x, 0, 1, 1, 2, 12, 4, 5, LOST);
    }

    static void promise23_ontoItselfUpTheyGoAsTheyWere() {
        ScooterFlags x = rows();
        due(x.copy(0, 0, 0, 1, 4), 4);
        dueCells(x, 0, 1, 1, 1, 2, 3, 4, LOST);
    }

    static void promise23_ontoItselfDownTheyGoAsTheyWere() {
        ScooterFlags x = rows();
        due(x.copy(0, 1, 0, 0, 4), 4);
        dueCells(x, 0, 1, 2, 3, 4, 5, 5, LOST);
    }

    static void promise23_ontoTheSamePlaceNothingChanges() {
        refused(rich(), x -> x.copy(0, 0, 0, 0, 11), 11, 0);
    }

    static void promise23_sixtyCellsAreCopied() {
        ScooterFlags x = new ScooterFlags();
        x.sheet(0, 2, 60);
        x.sheet(1, 2, 60);
        x.put(0, 0, MIN);
        x.put(0, 59, MAX);
        due(x.copy(0, 0, 1, 0, 60), 60);
        due(x.cell(1, 0, 2), MIN);
        due(x.cell(1, 59, 2), MAX);
        due(x.copy(0, 0, 1, 0, 61), INDEX);
    }

    static void promise23_whatWasCopiedIsNotTheSameRow() {
        ScooterFlags x = rows();
        x.copy(0, 0, 1, 0, 3);
        x.put(0, 0, 99);
        dueCells(x, 1, 1, 1, 2, 3);
    }

    // ---- promise 24

    static void promise24_flagOutsideIsUnknown() {
        for (int f : new int[] {-1, 3, MIN, MAX}) {
            leaves(rich(), x -> x.tell(f), UNKNOWN);
        }
        due(on("s111" + times("f0", 10)).tell(10), UNKNOWN);
    }

    static void promise24_withoutAStreetEachFlagIsUnknown() {
        leaves(bare(), x -> x.tell(0), UNKNOWN);
    }

    static void promise24_aFlagTellsWhatItTakes() {
        ScooterFlags x = on("s111f0f4");
        due(x.tell(0), 0);
        due(x.trace(), 1);
        due(x.tell(1), 4);
        due(x.trace(), 31 + 1);
    }

    static void promise24_aHillTells100More() {
        ScooterFlags x = on("s111h0h4");
        due(x.tell(0), 100);
        due(x.trace(), 2 * 31 + 1);
        due(x.tell(1), 104);
        due(x.trace(), ((2 * 31 + 1) * 31 + 2) * 31 + 1);
    }

    static void promise24_aWetOneTellsWhatHillsAndFlagsGive() {
        ScooterFlags x = on("s111w0w4");
        due(x.tell(0), 100);
        due(x.trace(), ((3 * 31 + 2) * 31 + 1) * 31 + 1);
        x = on("s111w0w4");
        due(x.tell(1), 108);
        due(x.trace(), ((3 * 31 + 2) * 31 + 1) * 31 + 1);
    }

    static void promise24_theLastOfTenIsTold() {
        due(on("s111" + times("f0", 9) + "w3").tell(9), 106);
    }

    static void promise24_aGratingDoesNothing() {
        due(on("s111f3#h3#").tell(0), 3);
        due(on("s111f3#h3#").tell(1), 103);
    }

    // ---- promise 25

    static void promise25_flagOutsideIsUnknown() {
        for (int f : new int[] {-1, 3, MIN, MAX}) {
            leaves(rich(), x -> x.rattle(f), UNKNOWN);
        }
        due(on("s111" + times("f0", 10)).rattle(10), UNKNOWN);
    }

    static void promise25_withoutAStreetEachFlagIsUnknown() {
        leaves(bare(), x -> x.rattle(0), UNKNOWN);
    }

    static void promise25_aFlagAndAHillRattleTheirPlace() {
        ScooterFlags x = on("s111f4" + times("h4", 9));
        int trace = 0;
        for (int f = 0; f <= 9; f++) {
            due(x.rattle(f), f);
            trace = trace * 31 + 4;
            due(x.trace(), trace);
        }
    }

    static void promise25_aWetOneRattles40WhereverItIs() {
        ScooterFlags x = on("s111" + times("w1", 10));
        due(x.rattle(0), 40);
        due(x.trace(), 5);
        due(x.rattle(9), 40);
        due(x.trace(), 5 * 31 + 5);
    }

    // ---- promise 26

    static void promise26_flagOutsideIsUnknown() {
        for (int f : new int[] {-1, 3, MIN, MAX}) {
            refused(rich(), x -> x.as(f, 0), UNKNOWN, 0);
        }
        due(on("s111" + times("f0", 10)).as(10, 0), UNKNOWN);
    }

    static void promise26_withoutAStreetEachFlagIsUnknown() {
        refused(bare(), x -> x.as(0, 0), UNKNOWN, 0);
        refused(bare(), x -> x.as(0, 2), UNKNOWN, 0);
    }

    static void promise26_unknownComesAheadOfOutside() {
        refused(rich(), x -> x.as(3, 3), UNKNOWN, 0);
        refused(rich(), x -> x.as(-1, -1), UNKNOWN, 0);
    }

    static void promise26_kindOutside0To2IsOutsideAndNoCast() {
        for (int kind : new int[] {-1, 3, MIN, MAX}) {
            refused(rich(), x -> x.as(0, kind), OUTSIDE, 0);
            refused(rich(), x -> x.as(2, kind), OUTSIDE, 0);
        }
    }

    static void promise26_eachIsAFlagToo() {
        for (int f = 0; f <= 2; f++) {
            int flag = f;
            refused(rich(), x -> x.as(flag, 0), 1, 0);
        }
    }

    static void promise26_aWetOneIsAHill() {
        refused(rich(), x -> x.as(2, 1), 1, 0);
        refused(rich(), x -> x.as(2, 2), 1, 0);
    }

    static void promise26_aHillIsNoWetOne() {
        refused(rich(), x -> x.as(1, 1), 1, 0);
        refused(rich(), x -> x.as(1, 2), CAST, 2);
    }

    static void promise26_aFlagIsNoHillAndNoWetOne() {
        refused(rich(), x -> x.as(0, 1), CAST, 2);
        refused(rich(), x -> x.as(0, 2), CAST, 2);
    }

    // ---- promise 27

    static void promise27_traceIs0AtFirst() {
        due(new ScooterFlags().trace(), 0);
        due(on("s111f0w0").trace(), 0);
    }

    static void promise27_traceWraps() {
        ScooterFlags x = on("s111f0w0");
        long trace = 0;
        for (int k = 0; k < 12; k++) {
            x.rattle(1);
            trace = (int) (trace * 31 + 5);
            due(x.trace(), trace);
        }
    }

    static void promise27_traceWrapsFromAboveToBelow0() {
        ScooterFlags x = on("s111f0w0");
        for (int k = 0; k < 7; k++) {
            x.rattle(0);
        }
        // 4 times (31^7 - 1) / 30 is above the greatest int.
        due(x.trace(), 3668348548L - (1L << 32));
        x.tell(0);
        x.rattle(1);
        due(x.trace(), (int) ((3668348548L * 31 + 1) * 31 + 5));
    }

    static void promise27_askingChangesNothing() {
        ScooterFlags x = rich();
        int trace = x.trace();
        leaves(x, y -> y.trace(), trace);
    }

    static void promise27_onlyTellingAndRattlingLeaveATrace() {
        ScooterFlags x = rich();
        int trace = x.trace();
        for (int f = 0; f <= 2; f++) {
            x.ofFlag(f, 2);
            x.cost(f);
            x.smooth(f);
            x.kinds(f);
            x.as(f, 2);
        }
        x.quickest();
        x.lightest(24);
        x.odds(9, 0);
        x.strengths();
        x.knees();
        x.way(1, 1, 0, 5, 0);
        due(x.trace(), trace);
    }

    // ---- promise 28

    static void promise28_aheadOfAnyItIs0() {
        due(new ScooterFlags().fault(), 0);
    }

    static void promise28_aCallThatCameToNoneMakesIt0() {
        for (int call = 0; call <= 6; call++) {
            ScooterFlags x = rich();
            x.sheet(0, 0, -1);
            due(x.fault(), 4);
            switch (call) {
                case 0: due(x.street(0, 0, 0, 11), 3); break;
                case 1: due(x.way(1, 1, 0, 2, 0), 2); break;
                case 2: due(x.sheet(2, 0, 1), 1); break;
                case 3: due(x.put(0, 0, 1), 1); break;
                case 4: due(x.cell(1, 4, 1), 4); break;
                case 5: due(x.copy(0, 0, 0, 1, 1), 1); break;
                default: due(x.as(2, 2), 1);
            }
            due("call " + call, x.fault(), 0);
        }
    }

    static void promise28_aCallThatWasRefusedMakesIt0() {
        for (int call = 0; call <= 6; call++) {
            ScooterFlags x = rich();
            x.sheet(0, 0, -1);
            switch (call) {
                case 0: due(x.street(0, 3, 0, 11), OUTSIDE); break;
                case 1: due(x.way(1, 1, 0, 25, 0), OUTSIDE); break;
                case 2: due(x.sheet(0, 0, 61), OUTSIDE); break;
                case 3: due(x.put(4, 0, 1), UNKNOWN); break;
                case 4: due(x.cell(0, 0, 3), LOST); break;
                case 5: due(x.copy(0, 0, 4, 1, 1), UNKNOWN); break;
                default: due(x.as(0, 3), OUTSIDE);
            }
            due("call " + call, x.fault(), 0);
        }
    }

    static void promise28_aLaterFaultTakesItsPlace() {
        ScooterFlags x = rich();
        x.put(2, 0, 0);
        due(x.fault(), 1);
        x.as(0, 2);
        due(x.fault(), 2);
        x.copy(0, -1, 0, 0, 0);
        due(x.fault(), 3);
        x.street(0, 0, 0, -1);
        due(x.fault(), 4);
        x.way(2, 0, 0, 0, 0);
        due(x.fault(), 1);
    }

    static void promise28_aTextThatIsNoneIsNoFault() {
        ScooterFlags x = rich();
        x.sheet(0, 0, -1);
        due(x.street(1, 1, 0, 5), -100);
        due(x.fault(), 0);
    }

    static void promise28_aWayWithAFirstWrongIsNoFault() {
        ScooterFlags x = rich();
        x.sheet(0, 0, -1);
        due(x.way(1, 1, 2, 1, 0), -100);
        due(x.fault(), 0);
    }

    static void promise28_callsThatNameNoFaultsLeaveIt() {
        ScooterFlags x = rich();
        x.sheet(0, 0, -1);
        x.ofFlag(0, 0);
        x.strong(3);
        x.knee(2);
        x.sole(1);
        x.grating(0, true);
        due(x.fault(), 4);
        x.quickest();
        x.lightest(24);
        x.cost(0);
        x.reading(1);
        x.back(1);
        x.smooth(0);
        x.kinds(0);
        x.strengths();
        x.knees();
        x.odds(24, 0);
        due(x.fault(), 4);
        x.lose(0);
        x.lose(0);
        x.tell(0);
        x.rattle(0);
        x.trace();
        x.many(0);
        due(x.fault(), 4);
    }

    static void promise28_refusalsOfCallsThatNameNoFaultsLeaveIt() {
        ScooterFlags x = rich();
        x.sheet(0, 0, -1);
        x.ofFlag(3, 0);
        x.strong(0);
        x.knee(0);
        x.sole(3);
        x.grating(3, true);
        x.lightest(25);
        x.cost(3);
        x.reading(25);
        x.back(3);
        x.smooth(3);
        x.kinds(3);
        x.odds(25, 0);
        x.lose(4);
        x.tell(3);
        x.rattle(3);
        x.many(5);
        due(x.fault(), 4);
    }

    static void promise28_askingForItLeavesIt() {
        ScooterFlags x = rich();
        x.as(0, 1);
        due(x.fault(), 2);
        due(x.fault(), 2);
    }

    // ---- promise 29

    static void promise29_whatOutside0To4IsOutside() {
        for (int what : new int[] {-1, 5, MIN, MAX}) {
            leaves(rich(), x -> x.many(what), OUTSIDE);
            leaves(bare(), x -> x.many(what), OUTSIDE);
        }
    }

    static void promise29_withoutAStreetAllAre0() {
        for (int what = 0; what <= 4; what++) {
            int asked = what;
            leaves(bare(), x -> x.many(asked), 0);
        }
    }

    static void promise29_eachIsAsItIsNow() {
        int[] want = {3, 2, 3, 2, 2};
        for (int what = 0; what <= 4; what++) {
            int asked = what;
            leaves(rich(), x -> x.many(asked), want[what]);
        }
    }

    static void promise29_theMostAndTheFewest() {
        ScooterFlags x = on("s432" + times("f0", 10));
        for (int k = 0; k < 8; k++) {
            x.reading(0);
        }
        int[] most = {10, 4, 3, 2, 8};
        int[] fewest = {2, 1, 1, 0, 0};
        for (int what = 0; what <= 4; what++) {
            due(x.many(what), most[what]);
            due(on("s110f0f0").many(what), fewest[what]);
        }
    }

    static void promise29_the512thCallAnswersAsTheFirst() {
        ScooterFlags x = new ScooterFlags();
        int made = 0;
        x.sheet(0, 0, 8);
        made++;
        String text = "s410f0f0";
        for (int i = 0; i < 8; i++) {
            x.put(0, i, text.charAt(i));
            made++;
        }
        x.street(0, 0, 0, 8);
        made++;
        while (made < 508) {
            due(x.reading(1), 0);
            due(x.back(1), 0);
            made += 2;
        }
        due(x.reading(1), 0);
        due(x.strengths(), 16);
        due(x.quickest(), 1);
        due(x.many(4), 1);
        due(made + 4, 512);
    }
}
