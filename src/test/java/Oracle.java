import java.util.ArrayList;
import java.util.HashMap;
import java.util.List;
import java.util.Map;
import java.util.regex.Matcher;
import java.util.regex.Pattern;

/**
 * The document told a second time, in another way than the program: texts by a pattern, faults by the machine's
 * own exceptions, tellings by real inheritance, both knees counted, seconds and pushes by maps of all that can be.
 */
final class Oracle {
    private static final Pattern TEXT = Pattern.compile("s[1-4][1-3][0-2]([fhw][0-4]#?){2,10}");
    private static final int NONE = -9;

    static class Flag {
        int takes;
        boolean grating;
        int drag() { return takes; }
        int kind() { return 0; }
        int told(Oracle o) { o.leave(1); return takes; }
        int plainlyTold(Oracle o) { o.leave(1); return takes; }
        int rattles(Oracle o, int place) { o.leave(4); return place; }
    }

    static class Hill extends Flag {
        @Override int drag() { return takes + 1; }
        @Override int kind() { return 1; }
        @Override int told(Oracle o) { o.leave(2); return super.told(o) + 100; }
    }

    static final class Wet extends Hill {
        @Override int drag() { return takes / 2; }
        @Override int kind() { return 2; }
        @Override int told(Oracle o) { o.leave(3); return super.told(o) + plainlyTold(o); }
        @Override int rattles(Oracle o, int place) { o.leave(5); return 40; }
    }

    private final Object[] sheets = new Object[4];
    private List<Flag> flags = new ArrayList<>();
    private int strong, knee, sole;
    private final List<Integer> readings = new ArrayList<>();
    private int trace, fault;

    void leave(int number) { trace = trace * 31 + number; }

    private interface Body { long run(); }

    private long faulting(boolean isLong, Body body) {
        fault = 0;
        try {
            return body.run();
        } catch (NullPointerException e) {
            fault = 1;
        } catch (ClassCastException e) {
            fault = 2;
        } catch (IndexOutOfBoundsException e) {
            fault = 3;
        } catch (NegativeArraySizeException e) {
            fault = 4;
        }
        return isLong ? Long.MIN_VALUE : -10 - fault;
    }

    private static long[] cells(Object sheet, int lane, int i, int n) {
        long[] all;
        if (lane == 0) {
            byte[] row = (byte[]) sheet;
            all = new long[row.length];
            for (int k = 0; k < row.length; k++) all[k] = row[k];
        } else if (lane == 1) {
            short[] row = (short[]) sheet;
            all = new long[row.length];
            for (int k = 0; k < row.length; k++) all[k] = row[k];
        } else {
            int[] row = (int[]) sheet;
            all = new long[row.length];
            for (int k = 0; k < row.length; k++) all[k] = row[k];
        }
        // A longer row than any sheet has would not fit into the machine; the copy below finds it out of place.
        long[] some = new long[Math.min(n, 61)];
        System.arraycopy(all, i, some, 0, n);
        return some;
    }

    private static boolean in(int v, int low, int high) { return v >= low && v <= high; }

    static int firstFault(String codes) {
        for (int end = 1; end <= codes.length(); end++) {
            Matcher m = TEXT.matcher(codes.substring(0, end));
            if (!m.matches() && !m.hitEnd()) return end - 1;
        }
        return TEXT.matcher(codes).matches() ? -1 : codes.length();
    }

    private static Flag flagOf(int kind) { return kind == 0 ? new Flag() : kind == 1 ? new Hill() : new Wet(); }

    int street(int sheet, int lane, int i, int n) {
        return (int) faulting(false, () -> {
            if (!in(sheet, 0, 3)) return -1;
            if (!in(lane, 0, 2)) return -2;
            StringBuilder text = new StringBuilder();
            // Codes that are no signs of a text are told as '?', which no text holds.
            for (long code : cells(sheets[sheet], lane, i, n)) text.append(code > 0 && code < 128 ? (char) code : '?');
            int wrong = firstFault(text.toString());
            if (wrong >= 0) return -100 - wrong;
            strong = text.charAt(1) - '0';
            knee = text.charAt(2) - '0';
            sole = text.charAt(3) - '0';
            flags = new ArrayList<>();
            Matcher m = Pattern.compile("([fhw])([0-4])(#?)").matcher(text.substring(4));
            while (m.find()) {
                Flag flag = flagOf("fhw".indexOf(m.group(1)));
                flag.takes = Integer.parseInt(m.group(2));
                flag.grating = !m.group(3).isEmpty();
                flags.add(flag);
            }
            readings.clear();
            return flags.size();
        });
    }

    private boolean has(int f) { return in(f, 0, flags.size() - 1); }

    int ofFlag(int f, int what) {
        if (!has(f)) return -1;
        Flag flag = flags.get(f);
        return what == 0 ? flag.kind() : what == 1 ? flag.takes : what == 2 ? flag.drag()
            : what == 3 ? (flag.grating ? 1 : 0) : -2;
    }

    int strong(int v) {
        if (!in(v, 1, 4)) return -2;
        if (flags.isEmpty()) return -3;
        int was = strong;
        strong = v;
        return was;
    }

    int knee(int v) {
        if (!in(v, 1, 3)) return -2;
        if (flags.isEmpty()) return -3;
        int was = knee;
        knee = v;
        return was;
    }

    int sole(int v) {
        if (!in(v, 0, 2)) return -2;
        if (flags.isEmpty()) return -3;
        int was = sole;
        sole = v;
        return was;
    }

    int grating(int f, boolean is) {
        if (!has(f)) return -1;
        boolean was = flags.get(f).grating;
        flags.get(f).grating = is;
        return was == is ? 0 : 1;
    }

    /** flag, pace, foot, left knee's pushes, right knee's pushes, sole, seconds, pushes; null if the act can't be. */
    private int[] after(int[] s, int act) {
        if (s[0] >= flags.size()) return null;
        int[] t = s.clone();
        int knees = 3 + s[2];
        if (act == 0) {
            if (s[knees] >= knee || s[1] == 6) return null;
            t[1] = Math.min(6, s[1] + strong);
            t[knees]++;
            t[7]++;
        } else if (act == 1) {
            t[2] = 1 - s[2];
            t[3 + t[2]] = 0;
        } else if (act == 2) {
            if (s[1] == 0) return null;
        } else if (act == 3) {
            if (s[5] == 0 || s[1] == 0) return null;
            t[1] = Math.max(0, s[1] - 2);
            t[5]--;
        } else {
            t[0]++;
            t[1] = 0;
            t[3] = 0;
            t[4] = 0;
            t[6] += 3;
            return t;
        }
        t[6]++;
        t[1] = Math.max(0, t[1] - flags.get(s[0]).drag());
        int goal = t[0] + t[1] / 2;
        while (t[0] < goal) {
            t[0]++;
            if (t[0] == flags.size()) break;
            if (flags.get(t[0]).grating && t[1] >= 4) {
                t[1] = 0;
                break;
            }
        }
        return t;
    }

    private int[] atFirst() { return new int[] {0, 0, 0, 0, 0, sole, 0, 0}; }

    int way(int sheet, int lane, int i, int n, int what) {
        return (int) faulting(false, () -> {
            if (!in(sheet, 0, 3)) return -1;
            if (!in(lane, 0, 2) || !in(n, 0, 24) || !in(what, 0, 7)) return -2;
            long[] acts = cells(sheets[sheet], lane, i, n);
            if (flags.isEmpty()) return -3;
            for (long act : acts) if (act < 0 || act > 4) return -2;
            int[] s = atFirst();
            for (int k = 0; k < n; k++) {
                int[] t = after(s, (int) acts[k]);
                if (t == null) return what == 1 ? k : -100 - k;
                s = t;
            }
            int[] told = {s[6], NONE, s[0], s[1], s[2], s[3 + s[2]], s[5], s[7]};
            return told[what];
        });
    }

    /** Of each second 0 .. 24 the fewest pushes with which he comes to the school just then; NONE. */
    private int[] arrivals() {
        List<Map<Long, int[]>> seconds = new ArrayList<>();
        for (int t = 0; t <= 27; t++) seconds.add(new HashMap<>());
        int[] fewest = new int[25];
        java.util.Arrays.fill(fewest, NONE);
        seconds.get(0).put(0L, atFirst());
        for (int t = 0; t < 24; t++) {
            for (int[] s : seconds.get(t).values()) {
                for (int act = 0; act < 5; act++) {
                    int[] next = after(s, act);
                    if (next == null || next[6] > 24) continue;
                    if (next[0] == flags.size()) {
                        if (fewest[next[6]] == NONE || next[7] < fewest[next[6]]) fewest[next[6]] = next[7];
                        continue;
                    }
                    long key = 0;
                    for (int k = 0; k < 6; k++) key = key * 16 + next[k];
                    int[] there = seconds.get(next[6]).get(key);
                    if (there == null || next[7] < there[7]) seconds.get(next[6]).put(key, next);
                }
            }
        }
        return fewest;
    }

    private int soonest() {
        int[] fewest = arrivals();
        for (int t = 0; t <= 24; t++) if (fewest[t] != NONE) return t;
        return NONE;
    }

    int quickest() { return flags.isEmpty() ? -3 : soonest(); }

    int lightest(int n) {
        if (!in(n, 0, 24)) return -2;
        if (flags.isEmpty()) return -3;
        int[] fewest = arrivals();
        int best = NONE;
        for (int t = 0; t <= n; t++) if (fewest[t] != NONE && (best == NONE || fewest[t] < best)) best = fewest[t];
        return best;
    }

    int cost(int f) {
        if (!has(f)) return -1;
        int now = soonest();
        Flag flag = flags.get(f);
        int takes = flag.takes;
        boolean grating = flag.grating;
        flag.takes = 0;
        flag.grating = false;
        int then = soonest();
        flag.takes = takes;
        flag.grating = grating;
        return now == NONE || then == NONE ? NONE : now - then;
    }

    int reading(int v) {
        if (v != NONE && !in(v, 0, 24)) return -2;
        if (flags.isEmpty()) return -3;
        if (readings.size() == 8) return -4;
        readings.add(v);
        return readings.size() - 1;
    }

    int back(int k) {
        if (!in(k, 0, readings.size())) return -2;
        for (int m = 0; m < k; m++) readings.remove(readings.size() - 1);
        return readings.size();
    }

    private boolean so() {
        int t = soonest();
        for (int r : readings) if (r != t) return false;
        return true;
    }

    int smooth(int f) {
        if (!has(f)) return -1;
        int was = flags.get(f).takes;
        int set = 0;
        for (int v = 0; v <= 4; v++) {
            flags.get(f).takes = v;
            if (so()) set += 1 << v;
        }
        flags.get(f).takes = was;
        return set;
    }

    private void becomesKind(int f, int kind) {
        Flag old = flags.get(f);
        Flag flag = flagOf(kind);
        flag.takes = old.takes;
        flag.grating = old.grating;
        flags.set(f, flag);
    }

    int kinds(int f) {
        if (!has(f)) return -1;
        Flag was = flags.get(f);
        int set = 0;
        for (int v = 0; v <= 2; v++) {
            becomesKind(f, v);
            if (so()) set += 1 << v;
        }
        flags.set(f, was);
        return set;
    }

    int strengths() {
        if (flags.isEmpty()) return -3;
        int was = strong;
        int set = 0;
        for (strong = 1; strong <= 4; strong++) if (so()) set += 1 << strong;
        strong = was;
        return set;
    }

    int knees() {
        if (flags.isEmpty()) return -3;
        int was = knee;
        int set = 0;
        for (knee = 1; knee <= 3; knee++) if (so()) set += 1 << knee;
        knee = was;
        return set;
    }

    private int within(int f, int n) {
        if (f == flags.size()) {
            int t = soonest();
            return t != NONE && t <= n ? 1 : 0;
        }
        Flag was = flags.get(f);
        if (was.kind() == 1) return within(f + 1, n);
        becomesKind(f, 0);
        int sum = within(f + 1, n);
        becomesKind(f, 2);
        sum += within(f + 1, n);
        flags.set(f, was);
        return sum;
    }

    long odds(int n, int which) {
        if (!in(n, 0, 24) || !in(which, 0, 1) || flags.isEmpty()) return Long.MIN_VALUE;
        int open = 0;
        for (Flag flag : flags) if (flag.kind() != 1) open++;
        if (open > 4) return Long.MIN_VALUE;
        long upper = within(0, n);
        long lower = 1 << open;
        long divisor = java.math.BigInteger.valueOf(upper).gcd(java.math.BigInteger.valueOf(lower)).longValue();
        return (which == 0 ? upper : lower) / divisor;
    }

    int sheet(int k, int lane, int n) {
        return (int) faulting(false, () -> {
            if (!in(k, 0, 3)) return -1;
            if (!in(lane, 0, 2) || n > 60) return -2;
            sheets[k] = lane == 0 ? new byte[n] : lane == 1 ? new short[n] : new int[n];
            return 1;
        });
    }

    int lose(int k) {
        if (!in(k, 0, 3)) return -1;
        boolean had = sheets[k] != null;
        sheets[k] = null;
        return had ? 1 : 0;
    }

    int put(int k, int i, int v) {
        return (int) faulting(false, () -> {
            if (!in(k, 0, 3)) return -1;
            if (sheets[k] instanceof byte[]) ((byte[]) sheets[k])[i] = (byte) v;
            else if (sheets[k] instanceof short[]) ((short[]) sheets[k])[i] = (short) v;
            else ((int[]) sheets[k])[i] = v;
            return 1;
        });
    }

    long cell(int k, int i, int lane) {
        return faulting(true, () -> {
            if (!in(k, 0, 3) || !in(lane, 0, 2)) return Long.MIN_VALUE;
            return lane == 0 ? ((byte[]) sheets[k])[i] : lane == 1 ? ((short[]) sheets[k])[i] : ((int[]) sheets[k])[i];
        });
    }

    int copy(int k, int i, int other, int j, int n) {
        return (int) faulting(false, () -> {
            if (!in(k, 0, 3) || !in(other, 0, 3)) return -1;
            try {
                System.arraycopy(sheets[k], i, sheets[other], j, n);
            } catch (ArrayStoreException e) {
                throw new ClassCastException("rows of unlike lanes");
            }
            return n;
        });
    }

    int tell(int f) { return has(f) ? flags.get(f).told(this) : -1; }

    int rattle(int f) { return has(f) ? flags.get(f).rattles(this, f) : -1; }

    int as(int f, int kind) {
        return (int) faulting(false, () -> {
            if (!has(f)) return -1;
            if (!in(kind, 0, 2)) return -2;
            Flag flag = flags.get(f);
            Flag taken = kind == 0 ? flag : kind == 1 ? (Hill) flag : (Wet) flag;
            return taken == flag ? 1 : 0;
        });
    }

    int trace() { return trace; }

    int fault() { return fault; }

    int many(int what) {
        int[] all = {flags.size(), strong, knee, sole, readings.size()};
        return in(what, 0, 4) ? all[what] : -2;
    }
}
