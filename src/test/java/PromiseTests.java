/** For each promise of the document runs of calls whose answers were worked out by hand. */
final class PromiseTests extends Calls {
    public static void main(String[] args) throws InterruptedException {
        runAll(PromiseTests.class, 1, 29);
    }

    static void promise01_newObject() {
        ScooterFlags x = new ScooterFlags();
        for (int what = 0; what <= 4; what++) {
            due("many " + what, x.many(what), 0);
        }
        for (int k = 0; k <= 3; k++) {
            due("lose " + k, x.lose(k), 0);
            due("put " + k, x.put(k, 0, 0), NULL);
        }
        x = new ScooterFlags();
        due("trace", x.trace(), 0);
        due("fault", x.fault(), 0);
        due("quickest", x.quickest(), STATE);
        due("ofFlag", x.ofFlag(0, 0), UNKNOWN);
    }

    static void promise02_street() {
        ScooterFlags x = new ScooterFlags();
        due("two flags", take(x, "s110f0h0"), 2);
        due("ten flags with gratings", take(x, "s432f4#h3#w2#f1#h0#w4#f3#h2#w1#f0#"), 10);
        due("the letter of an eleventh flag", take(x, "s432f4#h3#w2#f1#h0#w4#f3#h2#w1#f0#f0"), -134);
        due("ten without gratings", take(x, "s432f0f0f0f0f0f0f0f0f0f0"), 10);
        due("an eleventh", take(x, "s432f0f0f0f0f0f0f0f0f0f0h"), -124);
        String good = "s321f1#h0";
        for (int n = 0; n < good.length(); n++) {
            write(x, 0, 0, good);
            due("the first " + n + " codes", x.street(0, 0, 0, n), -100 - n);
        }
        due("all nine codes", x.street(0, 0, 0, 9), 2);
        due("no s", take(x, "S321f1h0"), -100);
        due("strong 0", take(x, "s021f1h0"), -101);
        due("strong 5", take(x, "s521f1h0"), -101);
        due("knee 0", take(x, "s301f1h0"), -102);
        due("knee 4", take(x, "s341f1h0"), -102);
        due("sole 3", take(x, "s323f1h0"), -103);
        due("sole /", take(x, "s32/f1h0"), -103);
        due("a kind that isn't", take(x, "s321g1h0"), -104);
        due("a grating ahead of all", take(x, "s321#f1h0"), -104);
        due("takes 5", take(x, "s321f5h0"), -105);
        due("takes /", take(x, "s321f/h0"), -105);
        due("two gratings", take(x, "s321f1##h0"), -107);
        due("a digit too many", take(x, "s321f1h00"), -108);
        due("a wrong code in one that is too short", take(x, "s321f1x"), -106);
        due("what was taken last stays", x.many(0), 2);
        x.sheet(2, 2, 60);
        write(x, 0, 2, "s432w4f0#");
        x.copy(0, 0, 2, 51, 9);
        due("behind other cells, of another lane", x.street(2, 2, 51, 9), 2);
        due("strong", x.many(1), 4);
        due("knee", x.many(2), 3);
        due("sole", x.many(3), 2);
        due("a grating behind the text's cells", x.street(2, 2, 51, 8), 2);
        due("is none of its own", x.ofFlag(1, 3), 0);
        x.put(2, 51, 115 + 256);
        due("a code that only a byte would cut", x.street(2, 2, 51, 9), -100);
        x.sheet(2, 0, 9);
        x.put(2, 0, 115 + 256);
        x.put(2, 1, 52);
        due("a code that the byte has cut", x.street(2, 0, 0, 2), -102);
    }

    static void promise02_streetFaults() {
        ScooterFlags x = new ScooterFlags();
        write(x, 0, 1, "s321f1h0");
        due("no sheet", x.street(-1, 9, -1, -1), UNKNOWN);
        due("no sheet", x.street(4, 1, 0, 8), UNKNOWN);
        due("lane", x.street(0, -1, 0, 8), OUTSIDE);
        due("lane", x.street(1, 3, 0, 8), OUTSIDE);
        due("cast ahead of all faults", x.street(0, 2, -1, -1), CAST);
        due("nothing is no cast", x.street(1, 2, -1, -1), NULL);
        due("size ahead of index", x.street(0, 1, -1, -1), SIZE);
        due("size", x.street(0, 1, 0, MIN), SIZE);
        due("index", x.street(0, 1, -1, 8), INDEX);
        due("index", x.street(0, 1, 1, 8), INDEX);
        due("index that wraps", x.street(0, 1, MAX, MAX), INDEX);
        due("index of none", x.street(0, 1, 9, 0), INDEX);
        due("index of none", x.street(0, 1, -1, 0), INDEX);
        due("fault", x.fault(), 3);
        due("none at the end", x.street(0, 1, 8, 0), -100);
        due("fault", x.fault(), 0);
        due("no street by all these", x.many(0), 0);
        due("a street", x.street(0, 1, 0, 8), 2);
    }

    static void promise02_streetMakesAnew() {
        ScooterFlags x = on("s321f1#h0");
        x.strong(1);
        x.knee(1);
        x.sole(0);
        x.grating(1, true);
        x.reading(3);
        x.tell(0);
        due("a wrong text", take(x, "s321f1#h9"), -108);
        due("changes nothing", x.many(1), 1);
        due("changes nothing", x.many(4), 1);
        write(x, 3, 2, "ab");
        due("a text", take(x, "s321f1#h0"), 2);
        due("strong", x.many(1), 3);
        due("knee", x.many(2), 2);
        due("sole", x.many(3), 1);
        due("readings", x.many(4), 0);
        due("grating", x.ofFlag(1, 3), 0);
        due("the trace stays", x.trace(), 1);
        due("the sheets stay", x.cell(3, 1, 2), 98);
        due("fewer flags", take(x, "s321w2w3w4"), 3);
        due("fewer flags", take(x, "s321f0f1"), 2);
        due("the third one is gone", x.ofFlag(2, 0), UNKNOWN);
        due("kind", x.ofFlag(0, 0), 0);
        due("grating", x.ofFlag(0, 3), 0);
    }

    static void promise03_ofFlag() {
        ScooterFlags x = on("s111f3h3#w3w4#h4f0");
        int[][] want = {{0, 3, 3, 0}, {1, 3, 4, 1}, {2, 3, 1, 0}, {2, 4, 2, 1}, {1, 4, 5, 0}, {0, 0, 0, 0}};
        for (int f = 0; f < want.length; f++) {
            for (int what = 0; what <= 3; what++) {
                due("ofFlag " + f + " " + what, x.ofFlag(f, what), want[f][what]);
            }
        }
        due("no flag ahead of outside", x.ofFlag(6, 4), UNKNOWN);
        due("no flag", x.ofFlag(-1, 0), UNKNOWN);
        due("no flag", x.ofFlag(MAX, 0), UNKNOWN);
        due("what", x.ofFlag(0, 4), OUTSIDE);
        due("what", x.ofFlag(0, -1), OUTSIDE);
    }

    static void promise04_strong() {
        ScooterFlags x = on("s322f0f0");
        due("strong 4", x.strong(4), 3);
        due("quickest", x.quickest(), 1);
        due("strong 1", x.strong(1), 4);
        due("strong 1 again", x.strong(1), 1);
        due("quickest", x.quickest(), 3);
        due("strong 0", x.strong(0), OUTSIDE);
        due("strong 5", x.strong(5), OUTSIDE);
        due("many", x.many(1), 1);
        due("no street", new ScooterFlags().strong(4), STATE);
        due("outside ahead of no street", new ScooterFlags().strong(5), OUTSIDE);
    }

    static void promise05_knee() {
        ScooterFlags x = on("s122f0f0");
        due("knee 1", x.knee(1), 2);
        due("quickest", x.quickest(), 4);
        due("knee 3", x.knee(3), 1);
        due("quickest", x.quickest(), 3);
        due("knee 0", x.knee(0), OUTSIDE);
        due("knee 4", x.knee(4), OUTSIDE);
        due("many", x.many(2), 3);
        due("no street", new ScooterFlags().knee(1), STATE);
        due("outside ahead of no street", new ScooterFlags().knee(0), OUTSIDE);
    }

    static void promise06_sole() {
        ScooterFlags x = on("s421f0f0f0f0f0");
        due("sole 2", x.sole(2), 1);
        due("sole left", ride(x, "0", 6), 2);
        due("sole 0", x.sole(0), 2);
        due("no brake", ride(x, "03", 1), 1);
        due("sole -1", x.sole(-1), OUTSIDE);
        due("sole 3", x.sole(3), OUTSIDE);
        due("many", x.many(3), 0);
        due("no street", new ScooterFlags().sole(0), STATE);
        due("outside ahead of no street", new ScooterFlags().sole(3), OUTSIDE);
    }

    static void promise07_grating() {
        ScooterFlags x = on("s411f0f0f0");
        due("flag 2, no grating", x.grating(2, false), 0);
        due("goes over it", ride(x, "0", 3), 4);
        due("a grating", x.grating(2, true), 1);
        due("a grating again", x.grating(2, true), 0);
        due("stopped by it", ride(x, "0", 3), 0);
        due("none", x.grating(2, false), 1);
        due("ofFlag", x.ofFlag(2, 3), 0);
        due("no flag", x.grating(3, true), UNKNOWN);
        due("no flag", x.grating(-1, false), UNKNOWN);
        due("no street", new ScooterFlags().grating(0, true), UNKNOWN);
    }

    static void promise08_way() {
        ScooterFlags x = on("s321f1h0#f2w4");
        dueWay(x, "", 0, 0, 0, 0, 0, 1, 0);
        dueWay(x, "0", 1, 1, 2, 0, 1, 1, 1);
        dueWay(x, "00", 2, 3, 4, 0, 2, 1, 2);
        dueWay(x, "003", 3, 3, 0, 0, 2, 0, 2);
        dueWay(x, "0034", 6, 4, 0, 0, 0, 0, 2);
        dueWrong(x, "000", 2);
        dueWrong(x, "0032", 3);
        dueWrong(x, "0033", 3);
        dueWrong(x, "00344", 4);
        dueWrong(x, "00341", 4);
        dueWrong(x, "2", 0);
        dueWrong(x, "3", 0);
        dueWrong(x, "201", 0);
        x = on("s430f0f0f0f0f0f0f0f0");
        dueWay(x, "00", 2, 5, 6, 0, 2, 0, 2);
        dueWay(x, "001", 3, 8, 6, 1, 0, 0, 2);
        dueWay(x, "002", 3, 8, 6, 0, 2, 0, 2);
        dueWrong(x, "000", 2);
        dueWrong(x, "0010", 3);
        dueWrong(x, "03", 1);
        x = on("s110f0f0f0");
        dueWay(x, "0", 1, 0, 1, 0, 1, 0, 1);
        dueWay(x, "02", 2, 0, 1, 0, 1, 0, 1);
        dueWrong(x, "00", 1);
        dueWay(x, "010", 3, 1, 2, 1, 1, 0, 2);
        dueWay(x, "011", 3, 0, 1, 0, 0, 0, 1);
        dueWay(x, "040", 5, 1, 1, 0, 1, 0, 2);
        dueWay(x, "144", 7, 2, 0, 1, 0, 0, 0);
        x = on("s112f0f0");
        dueWay(x, "03", 2, 0, 0, 0, 1, 1, 1);
        dueWrong(x, "033", 2);
        x = on("s411f0f0#f0#f0f0");
        dueWay(x, "0", 1, 1, 0, 0, 1, 1, 1);
        dueWay(x, "44", 6, 2, 0, 0, 0, 1, 0);
        x.strong(3);
        dueWay(x, "0", 1, 1, 3, 0, 1, 1, 1);
        dueWay(x, "010", 3, 5, 6, 1, 1, 1, 2);
        x.grating(3, true);
        dueWay(x, "010", 3, 3, 0, 1, 1, 1, 2);
        x = on("s411f0f0f0f0f0f0");
        dueWay(x, "03", 2, 3, 2, 0, 1, 0, 1);
        dueWrong(x, "033", 2);
    }

    static void promise08_wayRefused() {
        ScooterFlags x = new ScooterFlags();
        x.sheet(0, 2, 30);
        due("no street", x.way(0, 2, 0, 0, 0), STATE);
        due("index ahead of no street", x.way(0, 2, 31, 0, 0), INDEX);
        due("no street ahead of acts", x.way(0, 2, 0, 1, 0), STATE);
        take(x, "s432f0f0");
        x.sheet(0, 2, 30);
        x.put(0, 29, 5);
        x.put(0, 28, -1);
        due("no sheet", x.way(4, 3, 0, 0, 0), UNKNOWN);
        due("no sheet", x.way(-1, 2, 0, 0, 0), UNKNOWN);
        due("lane", x.way(1, 3, 0, 0, 0), OUTSIDE);
        due("n", x.way(0, 0, 0, 25, 0), OUTSIDE);
        due("n", x.way(0, 2, 0, -1, 0), OUTSIDE);
        due("what", x.way(0, 2, 0, 0, 8), OUTSIDE);
        due("what", x.way(0, 2, 0, 0, -1), OUTSIDE);
        due("cast", x.way(0, 1, 99, 0, 0), CAST);
        due("nothing", x.way(1, 1, 99, 0, 0), NULL);
        due("index", x.way(0, 2, 7, 24, 0), INDEX);
        due("index", x.way(0, 2, -1, 0, 0), INDEX);
        due("index", x.way(0, 2, MAX, 24, 0), INDEX);
        due("fault", x.fault(), 3);
        due("the end", x.way(0, 2, 30, 0, 1), NONE);
        due("no act 5", x.way(0, 2, 29, 1, 1), OUTSIDE);
        due("no act -1", x.way(0, 2, 28, 1, 1), OUTSIDE);
        due("it is behind the way's cells", x.way(0, 2, 27, 1, 1), NONE);
        due("no act, behind a first wrong", x.way(0, 2, 6, 24, 1), OUTSIDE);
        due("fault", x.fault(), 0);
        due("24 acts, the second one behind the school", x.way(0, 2, 0, 24, 1), 1);
        due("24 acts", x.way(0, 2, 0, 24, 2), -101);
    }

    static void promise09_quickest() {
        due("no street", new ScooterFlags().quickest(), STATE);
        due("one push", on("s410f0f0").quickest(), 1);
        due("push, change, push, glide", on("s110f0f0").quickest(), 4);
        due("push, push, glide", on("s120f0f0").quickest(), 3);
        due("carry, push", on("s411f4f0").quickest(), 4);
        due("stopped", on("s430f0f0#").quickest(), 2);
        due("push, brake to go over the grating, glide", on("s411f0f0f0f0#f0").quickest(), 3);
        due("carries of 24 seconds", on("s110h4h4h4h4h4h4h4h4").quickest(), 24);
        due("they would be 27", on("s110h4h4h4h4h4h4h4h4h4").quickest(), NONE);
        ScooterFlags x = on("s110f0f0");
        x.quickest();
        due("asked again", x.quickest(), 4);
    }

    static void promise10_lightest() {
        due("n", new ScooterFlags().lightest(-1), OUTSIDE);
        due("n", new ScooterFlags().lightest(25), OUTSIDE);
        due("no street", new ScooterFlags().lightest(24), STATE);
        ScooterFlags x = on("s110f0f0");
        int[] want = {NONE, NONE, NONE, NONE, 2, 2, 0, 0, 0};
        for (int n = 0; n < want.length; n++) {
            due("lightest " + n, x.lightest(n), want[n]);
        }
        due("lightest 24", x.lightest(24), 0);
        x = on("s110h4h4h4h4h4h4h4h4");
        due("lightest 23", x.lightest(23), NONE);
        due("lightest 24", x.lightest(24), 0);
        x = on("s430f0f0f0f0f0f0");
        due("two pushes", x.lightest(2), NONE);
        due("one push and glides", x.lightest(3), 1);
        due("one push", x.lightest(17), 1);
        due("carries", x.lightest(18), 0);
    }

    static void promise11_cost() {
        due("no street", new ScooterFlags().cost(0), UNKNOWN);
        ScooterFlags x = on("s411f4f0");
        due("cost 0", x.cost(0), 3);
        due("cost 1", x.cost(1), 0);
        due("no flag", x.cost(2), UNKNOWN);
        due("no flag", x.cost(-1), UNKNOWN);
        due("nothing is changed", x.ofFlag(0, 1), 4);
        due("of a grating", on("s430f0f0#").cost(1), 1);
        due("a hill stays a hill", on("s110h0h4").cost(1), 0);
        due("it helps to be slow ahead of a grating", on("s411f1f1#h1").cost(0), -2);
        due("none as it is, though there would be one", on("s410f4f4f4f4f4f4f4f4f4").cost(0), NONE);
        x = on("s420w2#f1#h4h4h4h4h4h4h4h4#");
        due("quickest", x.quickest(), 23);
        due("none then", x.cost(0), NONE);
        due("the grating is as it was", x.ofFlag(0, 3), 1);
    }

    static void promise12_reading() {
        due("v", new ScooterFlags().reading(25), OUTSIDE);
        due("no street", new ScooterFlags().reading(24), STATE);
        ScooterFlags x = on("s411f4f0");
        due("v", x.reading(-1), OUTSIDE);
        due("v", x.reading(-8), OUTSIDE);
        due("v", x.reading(-10), OUTSIDE);
        int[] seen = {0, 24, NONE, 1, 2, 3, 4, 5};
        for (int k = 0; k < seen.length; k++) {
            due("reading " + seen[k], x.reading(seen[k]), k);
        }
        due("a ninth", x.reading(0), FULL);
        due("outside ahead of full", x.reading(25), OUTSIDE);
        due("many", x.many(4), 8);
    }

    static void promise13_back() {
        ScooterFlags x = new ScooterFlags();
        due("no street", x.back(0), 0);
        due("no street", x.back(1), OUTSIDE);
        take(x, "s411f4f0");
        x.reading(4);
        x.reading(2);
        x.reading(2);
        due("back -1", x.back(-1), OUTSIDE);
        due("back 4", x.back(4), OUTSIDE);
        due("back MAX", x.back(MAX), OUTSIDE);
        due("back 0", x.back(0), 3);
        due("unlike readings", x.smooth(0), 0);
        due("back 2", x.back(2), 1);
        due("the last ones are gone", x.smooth(0), 24);
        due("reading", x.reading(4), 1);
        due("back 2", x.back(2), 0);
        due("many", x.many(4), 0);
    }

    static void promise14_smooth() {
        due("no street", new ScooterFlags().smooth(0), UNKNOWN);
        ScooterFlags x = on("s411f4f0");
        due("no readings", x.smooth(0), 31);
        x.reading(4);
        due("smooth 0", x.smooth(0), 24);
        due("smooth 1", x.smooth(1), 7);
        x.back(1);
        x.reading(2);
        due("smooth 0 by 2", x.smooth(0), 6);
        x.back(1);
        x.reading(1);
        due("smooth 0 by 1", x.smooth(0), 1);
        due("no flag", x.smooth(2), UNKNOWN);
        due("no flag", x.smooth(-1), UNKNOWN);
        due("nothing is changed", x.ofFlag(0, 1), 4);
        x = on("s410f4f4f4f4f4f4f4f4f4");
        x.reading(NONE);
        due("none was there", x.smooth(8), 31);
        due("none was there", x.smooth(0), 30);
    }

    static void promise15_kinds() {
        due("no street", new ScooterFlags().kinds(0), UNKNOWN);
        ScooterFlags x = on("s411f4f0");
        due("no readings", x.kinds(1), 7);
        x.reading(4);
        due("kinds 0", x.kinds(0), 3);
        x.back(1);
        x.reading(2);
        due("kinds 0 by 2", x.kinds(0), 4);
        due("kinds 1 by 2", x.kinds(1), 0);
        due("by how all is when it is asked", x.strong(3), 4);
        due("kinds 0 by 2", x.kinds(0), 0);
        due("no flag", x.kinds(2), UNKNOWN);
        due("no flag", x.kinds(-1), UNKNOWN);
        due("nothing is changed", x.ofFlag(0, 0), 0);
    }

    static void promise16_strengths() {
        due("no street", new ScooterFlags().strengths(), STATE);
        ScooterFlags x = on("s411f4f0");
        due("no readings", x.strengths(), 30);
        x.reading(4);
        due("by 4", x.strengths(), 28);
        x.reading(4);
        due("by 4 twice", x.strengths(), 28);
        x.reading(6);
        due("by 4 and 6", x.strengths(), 0);
        x.back(3);
        x.reading(6);
        due("by 6", x.strengths(), 2);
        due("nothing is changed", x.many(1), 4);
    }

    static void promise17_knees() {
        due("no street", new ScooterFlags().knees(), STATE);
        ScooterFlags x = on("s111f0f0");
        due("no readings", x.knees(), 14);
        x.reading(4);
        due("by 4", x.knees(), 2);
        x.back(1);
        x.reading(3);
        due("by 3", x.knees(), 12);
        due("nothing is changed", x.many(2), 1);
    }

    private static void dueOdds(ScooterFlags x, int n, int upper, int lower) {
        due("upper of odds " + n, x.odds(n, 0), upper);
        due("lower of odds " + n, x.odds(n, 1), lower);
    }

    static void promise18_odds() {
        due("no street", new ScooterFlags().odds(0, 0), LOST);
        ScooterFlags x = on("s411f4f4");
        dueOdds(x, 0, 0, 1);
        dueOdds(x, 2, 0, 1);
        dueOdds(x, 3, 1, 4);
        dueOdds(x, 4, 3, 4);
        dueOdds(x, 5, 3, 4);
        dueOdds(x, 6, 1, 1);
        dueOdds(x, 24, 1, 1);
        x.reading(6);
        dueOdds(x, 3, 1, 4);
        due("n", x.odds(25, 0), LOST);
        due("n", x.odds(-1, 0), LOST);
        due("which", x.odds(3, 2), LOST);
        due("which", x.odds(3, -1), LOST);
        due("nothing is changed", x.ofFlag(1, 0), 0);
        x = on("s411h4w4");
        dueOdds(x, 3, 0, 1);
        dueOdds(x, 4, 1, 2);
        dueOdds(x, 6, 1, 1);
        x = on("s410h0h0");
        dueOdds(x, 1, 0, 1);
        dueOdds(x, 24, 1, 1);
        x = on("s110h4h4h4h4h4h4h4h4h4");
        dueOdds(x, 24, 0, 1);
        due("four flags", on("s410f0w0f0w0h0").odds(24, 1), 1);
        due("five flags", on("s410f0w0f0w0f0").odds(24, 1), LOST);
        due("odds name no faults", x.fault(), 0);
    }

    static void promise19_sheet() {
        ScooterFlags x = new ScooterFlags();
        due("no sheet", x.sheet(4, 3, 61), UNKNOWN);
        due("no sheet", x.sheet(-1, 0, 0), UNKNOWN);
        due("lane", x.sheet(0, 3, -1), OUTSIDE);
        due("lane", x.sheet(0, -1, 1), OUTSIDE);
        due("n", x.sheet(0, 0, 61), OUTSIDE);
        due("fault", x.fault(), 0);
        due("size", x.sheet(0, 0, -1), SIZE);
        due("fault", x.fault(), 4);
        due("size", x.sheet(0, 0, MIN), SIZE);
        due("still nothing", x.lose(0), 0);
        due("sixty", x.sheet(3, 2, 60), 1);
        due("the last cell", x.cell(3, 59, 2), 0);
        due("behind it", x.cell(3, 60, 2), LOST);
        x.put(3, 0, 7);
        due("no new row", x.sheet(3, 2, -1), SIZE);
        due("the old one stays", x.cell(3, 0, 2), 7);
        due("a new row", x.sheet(3, 2, 1), 1);
        due("0 at first", x.cell(3, 0, 2), 0);
        due("a row of none", x.sheet(3, 1, 0), 1);
        due("it has no cell", x.put(3, 0, 0), INDEX);
        due("but is there", x.lose(3), 1);
    }

    static void promise20_lose() {
        ScooterFlags x = new ScooterFlags();
        due("no sheet", x.lose(-1), UNKNOWN);
        due("no sheet", x.lose(4), UNKNOWN);
        due("nothing", x.lose(2), 0);
        x.sheet(2, 0, 3);
        due("a row", x.lose(2), 1);
        due("nothing", x.lose(2), 0);
        due("no cell", x.put(2, 0, 1), NULL);
        x.lose(0);
        due("it names no faults", x.fault(), 1);
    }

    static void promise21_put() {
        ScooterFlags x = new ScooterFlags();
        due("no sheet", x.put(-1, 0, 0), UNKNOWN);
        due("no sheet", x.put(4, 0, 0), UNKNOWN);
        due("nothing", x.put(0, -1, 0), NULL);
        x.sheet(0, 0, 2);
        x.sheet(1, 1, 2);
        x.sheet(2, 2, 2);
        due("index", x.put(0, -1, 0), INDEX);
        due("index", x.put(0, 2, 0), INDEX);
        due("index", x.put(0, MAX, 0), INDEX);
        due("index", x.put(0, MIN, 0), INDEX);
        int[] v = {127, 128, -129, 255, 256, 32767, 32768, -32769, MAX, MIN};
        int[] bytes = {127, -128, 127, -1, 0, -1, 0, -1, -1, 0};
        int[] shorts = {127, 128, -129, 255, 256, 32767, -32768, 32767, -1, 0};
        for (int k = 0; k < v.length; k++) {
            due("put", x.put(0, 1, v[k]), 1);
            due("put", x.put(1, 1, v[k]), 1);
            due("put", x.put(2, 1, v[k]), 1);
            due("byte of " + v[k], x.cell(0, 1, 0), bytes[k]);
            due("short of " + v[k], x.cell(1, 1, 1), shorts[k]);
            due("int of " + v[k], x.cell(2, 1, 2), v[k]);
        }
        due("the cell beside it", x.cell(2, 0, 2), 0);
    }

    static void promise22_cell() {
        ScooterFlags x = new ScooterFlags();
        x.sheet(0, 1, 2);
        x.put(0, 0, -5);
        due("cell", x.cell(0, 0, 1), -5);
        due("cast", x.cell(0, 5, 0), LOST);
        due("fault", x.fault(), 2);
        due("nothing", x.cell(1, 5, 0), LOST);
        due("fault", x.fault(), 1);
        due("index", x.cell(0, 2, 1), LOST);
        due("fault", x.fault(), 3);
        due("index", x.cell(0, -1, 1), LOST);
        due("fault", x.fault(), 3);
        due("no sheet", x.cell(4, 0, 1), LOST);
        due("fault", x.fault(), 0);
        x.cell(0, 2, 1);
        due("lane", x.cell(0, 0, 3), LOST);
        due("fault", x.fault(), 0);
        due("lane", x.cell(1, 0, -1), LOST);
        due("fault", x.fault(), 0);
    }

    private static void dueCells(ScooterFlags x, int k, int lane, int... want) {
        for (int i = 0; i < want.length; i++) {
            due("cell " + i + " of " + k, x.cell(k, i, lane), want[i]);
        }
    }

    static void promise23_copy() {
        ScooterFlags x = new ScooterFlags();
        due("no sheet", x.copy(-1, 0, 0, 0, 0), UNKNOWN);
        due("no sheet", x.copy(0, 0, 4, 0, 0), UNKNOWN);
        x.sheet(0, 1, 4);
        x.sheet(1, 1, 3);
        x.sheet(3, 2, 4);
        due("the first is nothing", x.copy(2, 0, 3, 0, -1), NULL);
        due("the other is nothing", x.copy(3, 0, 2, 0, -1), NULL);
        due("unlike lanes", x.copy(0, 9, 3, 9, -1), CAST);
        for (int i = 0; i < 4; i++) {
            x.put(0, i, i + 1);
        }
        int[][] beyond = {{-1, 0, 1}, {0, -1, 1}, {0, 0, -1}, {0, 0, 4}, {2, 0, 3}, {0, 2, 2}, {5, 0, 0}, {0, 4, 0},
            {MAX, 0, MAX}, {0, MAX, 1}, {0, 0, MAX}, {0, 0, MIN}, {-1, 0, 0}};
        for (int[] b : beyond) {
            due("copy " + b[0] + " " + b[1] + " " + b[2], x.copy(0, b[0], 1, b[1], b[2]), INDEX);
        }
        dueCells(x, 1, 1, 0, 0, 0);
        due("none from the ends", x.copy(0, 4, 1, 3, 0), 0);
        due("two", x.copy(0, 2, 1, 1, 2), 2);
        dueCells(x, 1, 1, 0, 3, 4);
        due("onto itself, up", x.copy(0, 0, 0, 1, 3), 3);
        dueCells(x, 0, 1, 1, 1, 2, 3);
        due("onto itself, down", x.copy(0, 1, 0, 0, 3), 3);
        dueCells(x, 0, 1, 1, 2, 3, 3);
    }

    static void promise24_tell() {
        ScooterFlags x = on("s111f3h2w4");
        due("a flag", x.tell(0), 3);
        due("trace", x.trace(), 1);
        due("a hill", x.tell(1), 102);
        due("trace", x.trace(), (1 * 31 + 2) * 31 + 1);
        x = on("s111f3h2w4");
        due("a wet one", x.tell(2), 108);
        due("trace", x.trace(), ((3 * 31 + 2) * 31 + 1) * 31 + 1);
        due("no flag", x.tell(3), UNKNOWN);
        due("no flag", x.tell(-1), UNKNOWN);
        due("trace", x.trace(), ((3 * 31 + 2) * 31 + 1) * 31 + 1);
    }

    static void promise25_rattle() {
        ScooterFlags x = on("s111f3h2w4f0");
        due("the third place of the list", x.rattle(3), 3);
        due("trace", x.trace(), 4);
        due("a hill", x.rattle(1), 1);
        due("trace", x.trace(), 4 * 31 + 4);
        due("a wet one", x.rattle(2), 40);
        due("trace", x.trace(), (4 * 31 + 4) * 31 + 5);
        due("no flag", x.rattle(4), UNKNOWN);
        due("no flag", x.rattle(-1), UNKNOWN);
        due("trace", x.trace(), (4 * 31 + 4) * 31 + 5);
    }

    static void promise26_as() {
        ScooterFlags x = on("s111f3h2w4");
        for (int f = 0; f <= 2; f++) {
            for (int kind = 0; kind <= 2; kind++) {
                due("as " + f + " " + kind, x.as(f, kind), kind <= f ? 1 : CAST);
                due("fault", x.fault(), kind <= f ? 0 : 2);
            }
        }
        x.as(0, 2);
        due("kind", x.as(0, 3), OUTSIDE);
        due("fault", x.fault(), 0);
        due("kind", x.as(0, -1), OUTSIDE);
        due("no flag ahead of outside", x.as(3, 3), UNKNOWN);
        due("no flag", x.as(-1, 0), UNKNOWN);
        due("no street", new ScooterFlags().as(0, 0), UNKNOWN);
    }

    static void promise27_trace() {
        ScooterFlags x = on("s111w0f0");
        int want = 0;
        for (int k = 0; k < 20; k++) {
            x.rattle(0);
            x.tell(1);
            want = (want * 31 + 5) * 31 + 1;
            due("trace", x.trace(), want);
        }
        x.ofFlag(0, 2);
        x.quickest();
        x.odds(3, 0);
        x.kinds(0);
        due("only tellings leave a trace", x.trace(), want);
        take(x, "s111f0f0");
        due("a new street keeps it", x.trace(), want);
    }

    static void promise28_fault() {
        ScooterFlags x = new ScooterFlags();
        due("at first", x.fault(), 0);
        x.put(0, 0, 0);
        due("of put", x.fault(), 1);
        x.lose(9);
        x.tell(0);
        x.quickest();
        x.many(9);
        x.odds(25, 0);
        x.trace();
        due("calls that name no faults leave it", x.fault(), 1);
        due("and asking it does", x.fault(), 1);
        x.put(4, 0, 0);
        due("of one that was refused", x.fault(), 0);
        x.street(0, 0, 0, 0);
        due("of street", x.fault(), 1);
        x.sheet(0, 0, 3);
        due("of sheet that came to none", x.fault(), 0);
        x.way(0, 1, 0, 0, 0);
        due("of way", x.fault(), 2);
        x.way(0, 0, 0, 0, 0);
        due("of way without a street", x.fault(), 0);
        x.copy(0, 0, 0, 0, -1);
        due("of copy", x.fault(), 3);
        x.copy(0, 0, 0, 0, 1);
        due("of copy that came to none", x.fault(), 0);
        x.sheet(0, 0, -1);
        due("of sheet", x.fault(), 4);
        x.street(0, 0, 0, 3);
        due("of street by a wrong text", x.fault(), 0);
    }

    static void promise29_many() {
        ScooterFlags x = on("s432f0f0f0");
        x.reading(3);
        int[] want = {3, 4, 3, 2, 1};
        for (int what = 0; what <= 4; what++) {
            due("many " + what, x.many(what), want[what]);
        }
        due("what", x.many(-1), OUTSIDE);
        due("what", x.many(5), OUTSIDE);
        due("what", new ScooterFlags().many(5), OUTSIDE);
    }
}
