/** Long rows of calls, the same ones each time, on the program and on the oracle: every answer must be alike. */
public final class ModelTests {
    private static final int CALLS = 512;
    private static int wrong = 0;
    private static int dearest = 0;

    private long seed;
    private int run;
    private int calls;
    private ScooterFlags x;
    private Oracle o;

    public static void main(String[] args) {
        int runs = args.length > 1 ? Integer.parseInt(args[1]) : 120;
        for (int run = 1; run <= runs; run++) {
            new ModelTests().goThrough(run);
        }
        System.out.println(wrong == 0 ? "the program and the oracle answer alike, least cost seen " + dearest
            : wrong + " answers are unlike");
        if (wrong != 0) {
            System.exit(1);
        }
    }

    /** A number of 0 .. n - 1, told by the run alone. */
    private int any(int n) {
        seed = seed * 6364136223846793005L + 1442695040888963407L;
        return (int) ((seed >>> 33) % n);
    }

    private int from(int low, int high) {
        return low + any(high - low + 1);
    }

    private void same(String call, long got, long want) {
        calls++;
        if (got != want) {
            wrong++;
            if (wrong <= 20) {
                System.out.println("run " + run + ", call " + calls + ": " + call + " answered " + got
                    + ", the oracle " + want);
            }
        }
    }

    private void goThrough(int number) {
        run = number;
        seed = number * 7919L;
        x = new ScooterFlags();
        o = new Oracle();
        if (any(10) > 0) {
            takeStreet(streetText());
        }
        while (calls < CALLS - 50) {
            step();
        }
        lookAtAll();
    }

    private void step() {
        int which = any(40);
        if (which == 0) {
            takeStreet(any(4) == 0 ? spoiled(streetText()) : streetText());
        } else if (which < 14) {
            rideAWay();
        } else if (which < 20) {
            changeStreet();
        } else if (which < 26) {
            askTheStreet();
        } else if (which < 31) {
            askTheReadings();
        } else if (which < 37) {
            useSheets();
        } else {
            tellParts();
        }
    }

    private String streetText() {
        StringBuilder text = new StringBuilder("s");
        text.append(from(1, 4)).append(from(1, 3)).append(from(0, 2));
        int flags = from(2, any(3) == 0 ? 10 : 6);
        int most = any(3) == 0 ? 4 : 1;
        boolean hilly = any(2) == 0;
        for (int f = 0; f < flags; f++) {
            text.append(hilly && any(2) == 0 ? 'h' : "fhw".charAt(any(3))).append(from(0, most));
            if (any(4) == 0) {
                text.append('#');
            }
        }
        return text.toString();
    }

    private String spoiled(String text) {
        StringBuilder s = new StringBuilder(text);
        int place = any(s.length());
        switch (any(4)) {
            case 0:
                s.setCharAt(place, "sfhw#012345x".charAt(any(12)));
                break;
            case 1:
                s.setLength(place);
                break;
            case 2:
                s.insert(place, "sfhw#012345x".charAt(any(12)));
                break;
            default:
                s.append("f0h1#w4#f0h1#w4#f0f0f0f0f0f0f0", 0, from(1, 25));
        }
        if (s.length() > 60) {
            s.setLength(60);
        }
        return s.toString();
    }

    private void takeStreet(String text) {
        int k = any(4);
        int lane = any(3);
        int i = Math.min(any(4), 60 - text.length());
        int length = text.length() + i;
        same("sheet", x.sheet(k, lane, length), o.sheet(k, lane, length));
        for (int c = 0; c < text.length(); c++) {
            same("put", x.put(k, i + c, text.charAt(c)), o.put(k, i + c, text.charAt(c)));
        }
        same("street " + text, x.street(k, lane, i, text.length()), o.street(k, lane, i, text.length()));
        lookAtAll();
    }

    private void rideAWay() {
        int k = any(4);
        int lane = any(3);
        int n = any(12);
        same("sheet", x.sheet(k, lane, n), o.sheet(k, lane, n));
        StringBuilder acts = new StringBuilder();
        for (int i = 0; i < n; i++) {
            int act = any(60) == 0 ? from(-1, 5) : "0000111222344".charAt(any(13)) - '0';
            acts.append(act).append(' ');
            same("put", x.put(k, i, act), o.put(k, i, act));
        }
        for (int what = 0; what <= 7; what++) {
            same("way " + acts + "what " + what, x.way(k, lane, 0, n, what), o.way(k, lane, 0, n, what));
        }
        int i = from(-1, 13);
        int some = from(-1, 25);
        int what = from(-1, 8);
        int asLane = any(5) == 0 ? from(-1, 3) : lane;
        int sheet = any(8) == 0 ? from(-1, 4) : k;
        same("way", x.way(sheet, asLane, i, some, what), o.way(sheet, asLane, i, some, what));
        same("fault", x.fault(), o.fault());
    }

    private void changeStreet() {
        int v = from(-1, 5);
        int f = from(-1, 10);
        boolean is = any(2) == 0;
        switch (any(4)) {
            case 0:
                same("strong " + v, x.strong(v), o.strong(v));
                break;
            case 1:
                same("knee " + v, x.knee(v), o.knee(v));
                break;
            case 2:
                same("sole " + v, x.sole(v), o.sole(v));
                break;
            default:
                same("grating " + f, x.grating(f, is), o.grating(f, is));
        }
    }

    private void askTheStreet() {
        int f = from(-1, 6);
        int n = from(-1, 25);
        int which = from(-1, 2);
        switch (any(4)) {
            case 0:
                same("quickest", x.quickest(), o.quickest());
                break;
            case 1:
                same("lightest " + n, x.lightest(n), o.lightest(n));
                break;
            case 2:
                int cost = x.cost(f);
                same("cost " + f, cost, o.cost(f));
                dearest = f >= 0 && cost != -9 ? Math.min(dearest, cost) : dearest;
                break;
            default:
                same("odds " + n + " " + which, x.odds(n, which), o.odds(n, which));
        }
    }

    private void askTheReadings() {
        int f = from(-1, 6);
        int v = any(3) > 0 ? o.quickest() : from(-11, 26);
        switch (any(7)) {
            case 0:
            case 1:
                same("reading " + v, x.reading(v), o.reading(v));
                break;
            case 2:
                int k = from(-1, 3);
                same("back " + k, x.back(k), o.back(k));
                break;
            case 3:
                same("smooth " + f, x.smooth(f), o.smooth(f));
                break;
            case 4:
                same("kinds " + f, x.kinds(f), o.kinds(f));
                break;
            case 5:
                same("strengths", x.strengths(), o.strengths());
                break;
            default:
                same("knees", x.knees(), o.knees());
        }
    }

    private void useSheets() {
        int k = any(12) == 0 ? from(-1, 4) : any(4);
        int other = any(12) == 0 ? from(-1, 4) : any(4);
        int lane = any(12) == 0 ? from(-1, 3) : any(3);
        int i = any(12) == 0 ? anyEdge() : from(-1, 12);
        int j = any(12) == 0 ? anyEdge() : from(-1, 12);
        int n = any(12) == 0 ? anyEdge() : from(-1, 12);
        switch (any(8)) {
            case 0:
                same("sheet " + k + " " + lane + " " + n, x.sheet(k, lane, n), o.sheet(k, lane, n));
                break;
            case 1:
                if (any(3) == 0) {
                    same("lose " + k, x.lose(k), o.lose(k));
                }
                break;
            case 2:
                int v = any(2) == 0 ? anyEdge() : from(-70000, 70000);
                same("put " + k + " " + i + " " + v, x.put(k, i, v), o.put(k, i, v));
                break;
            case 3:
            case 4:
                same("cell " + k + " " + i + " " + lane, x.cell(k, i, lane), o.cell(k, i, lane));
                break;
            case 5:
                same("street " + k + " " + i, x.street(k, lane, i, n), o.street(k, lane, i, n));
                break;
            default:
                same("copy " + k + " " + i + " " + other + " " + j + " " + n, x.copy(k, i, other, j, n),
                    o.copy(k, i, other, j, n));
        }
        same("fault", x.fault(), o.fault());
    }

    private int anyEdge() {
        int[] edges = {Integer.MIN_VALUE, Integer.MAX_VALUE, -129, -128, 127, 128, 255, 256, 32767, 32768, -32769, 59, 60,
            61, 0};
        return edges[any(edges.length)];
    }

    private void tellParts() {
        int f = from(-1, 10);
        int v = from(-1, 4);
        same("tell " + f, x.tell(f), o.tell(f));
        same("rattle " + f, x.rattle(f), o.rattle(f));
        same("trace", x.trace(), o.trace());
        same("as " + f + " " + v, x.as(f, v), o.as(f, v));
        same("fault", x.fault(), o.fault());
        same("ofFlag " + f + " " + v, x.ofFlag(f, v), o.ofFlag(f, v));
    }

    private void lookAtAll() {
        for (int what = -1; what <= 5; what++) {
            same("many " + what, x.many(what), o.many(what));
        }
        same("trace", x.trace(), o.trace());
        same("fault", x.fault(), o.fault());
    }
}
