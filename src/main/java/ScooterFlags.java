import java.util.Arrays;

/** A scooter goes to school over flags; ../shared/DOC.md tells what each call promises. */
public final class ScooterFlags {
    public static final int UNKNOWN = -1, OUTSIDE = -2, STATE = -3, FULL = -4, NONE = -9;
    public static final long LOST = Long.MIN_VALUE;

    private static final int NO_FAULT = 0, NULL_FAULT = 1, CAST_FAULT = 2, INDEX_FAULT = 3, SIZE_FAULT = 4;
    private static final int PLAIN = 0, HILL = 1, WET = 2, KINDS = 3;
    private static final int PUSH = 0, CHANGE = 1, GLIDE = 2, BRAKE = 3, CARRY = 4, ACTS = 5;
    private static final int MOST_FLAGS = 10, LEAST_FLAGS = 2, MOST_TAKEN = 4;
    private static final int MOST_STRONG = 4, MOST_KNEE = 3, MOST_SOLE = 2, MOST_PACE = 6;
    private static final int MOST_SECONDS = 24, MOST_ACTS = 24, MOST_READINGS = 8;
    private static final int MOST_OPEN_FLAGS = 4;
    private static final int SHEETS = 4, LANES = 3, MOST_CELLS = 60;

    private final Row[] rows = new Row[SHEETS];
    private final Rider rider = new Rider();
    private final Search search = new Search();
    private final int[] readings = new int[MOST_READINGS];
    private final int[] openFlags = new int[MOST_OPEN_FLAGS];
    // A text is read into the draft, and what might be is tried on it: the road stays as it is meanwhile.
    private Street road = new Street();
    private Street draft = new Street();
    private int readingCount = 0;
    private int traced = 0;
    private int lastFault = NO_FAULT;

    public ScooterFlags() {
        for (int k = 0; k < SHEETS; k++) {
            rows[k] = new Row();
        }
    }

    // ---- 1 the street

    public int street(int sheet, int lane, int i, int n) {
        lastFault = NO_FAULT;
        if (!isSheet(sheet)) {
            return UNKNOWN;
        }
        if (!isLane(lane)) {
            return OUTSIDE;
        }
        Row row = rows[sheet];
        if (row.isUnlike(lane)) {
            return failed(CAST_FAULT);
        }
        if (!row.there) {
            return failed(NULL_FAULT);
        }
        if (n < 0) {
            return failed(SIZE_FAULT);
        }
        if (!row.holds(i, n)) {
            return failed(INDEX_FAULT);
        }
        int wrong = draft.readText(row, i, n);
        if (wrong != NONE) {
            return -100 - wrong;
        }
        Street old = road;
        road = draft;
        draft = old;
        readingCount = 0;
        return road.count;
    }

    public int ofFlag(int f, int what) {
        if (!road.has(f)) {
            return UNKNOWN;
        }
        switch (what) {
            case 0:
                return road.kind[f];
            case 1:
                return road.taken[f];
            case 2:
                return road.dragOf(f);
            case 3:
                return road.grated[f] ? 1 : 0;
            default:
                return OUTSIDE;
        }
    }

    public int strong(int v) {
        if (v < 1 || v > MOST_STRONG) {
            return OUTSIDE;
        }
        if (road.isNone()) {
            return STATE;
        }
        int was = road.strength;
        road.strength = v;
        return was;
    }

    public int knee(int v) {
        if (v < 1 || v > MOST_KNEE) {
            return OUTSIDE;
        }
        if (road.isNone()) {
            return STATE;
        }
        int was = road.kneeBears;
        road.kneeBears = v;
        return was;
    }

    public int sole(int v) {
        if (v < 0 || v > MOST_SOLE) {
            return OUTSIDE;
        }
        if (road.isNone()) {
            return STATE;
        }
        int was = road.soleBears;
        road.soleBears = v;
        return was;
    }

    public int grating(int f, boolean is) {
        if (!road.has(f)) {
            return UNKNOWN;
        }
        if (road.grated[f] == is) {
            return 0;
        }
        road.grated[f] = is;
        return 1;
    }

    // ---- 2 ways

    public int way(int sheet, int lane, int i, int n, int what) {
        lastFault = NO_FAULT;
        if (!isSheet(sheet)) {
            return UNKNOWN;
        }
        if (!isLane(lane) || n < 0 || n > MOST_ACTS || what < 0 || what > 7) {
            return OUTSIDE;
        }
        Row row = rows[sheet];
        if (row.isUnlike(lane)) {
            return failed(CAST_FAULT);
        }
        if (!row.there) {
            return failed(NULL_FAULT);
        }
        if (!row.holds(i, n)) {
            return failed(INDEX_FAULT);
        }
        if (road.isNone()) {
            return STATE;
        }
        if (!areActs(row, i, n)) {
            return OUTSIDE;
        }
        int wrong = ride(row, i, n);
        if (what == 1) {
            return wrong;
        }
        return wrong == NONE ? riderTells(what) : -100 - wrong;
    }

    private static boolean areActs(Row row, int i, int n) {
        for (int k = 0; k < n; k++) {
            int act = row.at(i + k);
            if (act < 0 || act >= ACTS) {
                return false;
            }
        }
        return true;
    }

    private int ride(Row row, int i, int n) {
        rider.begin(road);
        for (int k = 0; k < n; k++) {
            int act = row.at(i + k);
            if (!rider.can(road, act)) {
                return k;
            }
            rider.goBy(road, act);
        }
        return NONE;
    }

    private int riderTells(int what) {
        switch (what) {
            case 0:
                return rider.seconds;
            case 2:
                return rider.flag;
            case 3:
                return rider.pace;
            case 4:
                return rider.foot;
            case 5:
                return rider.tired;
            case 6:
                return rider.soleLeft;
            default:
                return rider.pushes;
        }
    }

    // ---- 3 the quickest, the lightest

    public int quickest() {
        if (road.isNone()) {
            return STATE;
        }
        return search.least(road, MOST_SECONDS, false);
    }

    public int lightest(int n) {
        if (n < 0 || n > MOST_SECONDS) {
            return OUTSIDE;
        }
        if (road.isNone()) {
            return STATE;
        }
        return search.least(road, n, true);
    }

    public int cost(int f) {
        if (!road.has(f)) {
            return UNKNOWN;
        }
        int now = search.least(road, MOST_SECONDS, false);
        if (now == NONE) {
            return NONE;
        }
        draft.becomeLike(road);
        draft.taken[f] = 0;
        draft.grated[f] = false;
        int then = search.least(draft, MOST_SECONDS, false);
        return then == NONE ? NONE : now - then;
    }

    // ---- 4 what was seen

    public int reading(int v) {
        if (v != NONE && (v < 0 || v > MOST_SECONDS)) {
            return OUTSIDE;
        }
        if (road.isNone()) {
            return STATE;
        }
        if (readingCount >= MOST_READINGS) {
            return FULL;
        }
        readings[readingCount] = v;
        readingCount++;
        return readingCount - 1;
    }

    public int back(int k) {
        if (k < 0 || k > readingCount) {
            return OUTSIDE;
        }
        readingCount -= k;
        return readingCount;
    }

    public int smooth(int f) {
        if (!road.has(f)) {
            return UNKNOWN;
        }
        draft.becomeLike(road);
        int set = 0;
        for (int v = 0; v <= MOST_TAKEN; v++) {
            draft.taken[f] = v;
            if (draftFitsReadings()) {
                set |= 1 << v;
            }
        }
        return set;
    }

    public int kinds(int f) {
        if (!road.has(f)) {
            return UNKNOWN;
        }
        draft.becomeLike(road);
        int set = 0;
        for (int v = 0; v < KINDS; v++) {
            draft.kind[f] = v;
            if (draftFitsReadings()) {
                set |= 1 << v;
            }
        }
        return set;
    }

    public int strengths() {
        if (road.isNone()) {
            return STATE;
        }
        draft.becomeLike(road);
        int set = 0;
        for (int v = 1; v <= MOST_STRONG; v++) {
            draft.strength = v;
            if (draftFitsReadings()) {
                set |= 1 << v;
            }
        }
        return set;
    }

    public int knees() {
        if (road.isNone()) {
            return STATE;
        }
        draft.becomeLike(road);
        int set = 0;
        for (int v = 1; v <= MOST_KNEE; v++) {
            draft.kneeBears = v;
            if (draftFitsReadings()) {
                set |= 1 << v;
            }
        }
        return set;
    }

    public long odds(int n, int which) {
        if (n < 0 || n > MOST_SECONDS || which < 0 || which > 1) {
            return LOST;
        }
        if (road.isNone()) {
            return LOST;
        }
        int open = findOpenFlags();
        if (open > MOST_OPEN_FLAGS) {
            return LOST;
        }
        draft.becomeLike(road);
        int upper = waysWithin(open, n);
        int lower = 1 << open;
        for (int k = 0; k < open && upper % 2 == 0; k++) {
            upper /= 2;
            lower /= 2;
        }
        return which == 0 ? upper : lower;
    }

    /** Without readings all fits, so nothing is searched. */
    private boolean draftFitsReadings() {
        if (readingCount == 0) {
            return true;
        }
        int seconds = search.least(draft, MOST_SECONDS, false);
        for (int k = 0; k < readingCount; k++) {
            if (readings[k] != seconds) {
                return false;
            }
        }
        return true;
    }

    /** How many flags may be wet or dry; the first of them are kept in openFlags. */
    private int findOpenFlags() {
        int open = 0;
        for (int f = 0; f < road.count; f++) {
            if (road.kind[f] != HILL) {
                if (open < MOST_OPEN_FLAGS) {
                    openFlags[open] = f;
                }
                open++;
            }
        }
        return open;
    }

    private int waysWithin(int open, int n) {
        int within = 0;
        for (int wetOnes = 0; wetOnes < 1 << open; wetOnes++) {
            for (int k = 0; k < open; k++) {
                draft.kind[openFlags[k]] = (wetOnes >> k & 1) == 1 ? WET : PLAIN;
            }
            if (search.least(draft, n, false) != NONE) {
                within++;
            }
        }
        return within;
    }

    // ---- 5 sheets, parts

    public int sheet(int k, int lane, int n) {
        lastFault = NO_FAULT;
        if (!isSheet(k)) {
            return UNKNOWN;
        }
        if (!isLane(lane) || n > MOST_CELLS) {
            return OUTSIDE;
        }
        if (n < 0) {
            return failed(SIZE_FAULT);
        }
        rows[k].becomeNew(lane, n);
        return 1;
    }

    public int lose(int k) {
        if (!isSheet(k)) {
            return UNKNOWN;
        }
        if (!rows[k].there) {
            return 0;
        }
        rows[k].there = false;
        return 1;
    }

    public int put(int k, int i, int v) {
        lastFault = NO_FAULT;
        if (!isSheet(k)) {
            return UNKNOWN;
        }
        Row row = rows[k];
        if (!row.there) {
            return failed(NULL_FAULT);
        }
        if (!row.holds(i, 1)) {
            return failed(INDEX_FAULT);
        }
        row.keep(i, v);
        return 1;
    }

    public long cell(int k, int i, int lane) {
        lastFault = NO_FAULT;
        if (!isSheet(k) || !isLane(lane)) {
            return LOST;
        }
        Row row = rows[k];
        if (row.isUnlike(lane)) {
            return lost(CAST_FAULT);
        }
        if (!row.there) {
            return lost(NULL_FAULT);
        }
        if (!row.holds(i, 1)) {
            return lost(INDEX_FAULT);
        }
        return row.at(i);
    }

    public int copy(int k, int i, int other, int j, int n) {
        lastFault = NO_FAULT;
        if (!isSheet(k) || !isSheet(other)) {
            return UNKNOWN;
        }
        Row from = rows[k];
        Row to = rows[other];
        if (!from.there || !to.there) {
            return failed(NULL_FAULT);
        }
        if (to.isUnlike(from.lane)) {
            return failed(CAST_FAULT);
        }
        if (!from.holds(i, n) || !to.holds(j, n)) {
            return failed(INDEX_FAULT);
        }
        System.arraycopy(from.cells, i, to.cells, j, n);
        return n;
    }

    public int tell(int f) {
        if (!road.has(f)) {
            return UNKNOWN;
        }
        switch (road.kind[f]) {
            case WET:
                return wetTold(f);
            case HILL:
                return hillTold(f);
            default:
                return flagTold(f);
        }
    }

    public int rattle(int f) {
        if (!road.has(f)) {
            return UNKNOWN;
        }
        if (road.kind[f] == WET) {
            leaveTrace(5);
            return 40;
        }
        leaveTrace(4);
        return f;
    }

    public int as(int f, int kind) {
        lastFault = NO_FAULT;
        if (!road.has(f)) {
            return UNKNOWN;
        }
        if (kind < 0 || kind >= KINDS) {
            return OUTSIDE;
        }
        // Each kind is one of all the kinds numbered below it, too.
        return kind <= road.kind[f] ? 1 : failed(CAST_FAULT);
    }

    public int trace() {
        return traced;
    }

    public int fault() {
        return lastFault;
    }

    public int many(int what) {
        switch (what) {
            case 0:
                return road.count;
            case 1:
                return road.strength;
            case 2:
                return road.kneeBears;
            case 3:
                return road.soleBears;
            case 4:
                return readingCount;
            default:
                return OUTSIDE;
        }
    }

    private int flagTold(int f) {
        leaveTrace(1);
        return road.has(f) ? road.taken[f] : 0;
    }

    private int hillTold(int f) {
        leaveTrace(2);
        return flagTold(f) + 100;
    }

    private int wetTold(int f) {
        leaveTrace(3);
        int asHill = hillTold(f);
        return asHill + flagTold(f);
    }

    private void leaveTrace(int body) {
        traced = 31 * traced + body;
    }

    private int failed(int fault) {
        lastFault = fault;
        return -10 - fault;
    }

    private long lost(int fault) {
        lastFault = fault;
        return LOST;
    }

    private static boolean isSheet(int k) {
        return k >= 0 && k < SHEETS;
    }

    private static boolean isLane(int lane) {
        return lane >= 0 && lane < LANES;
    }

    /** What a sheet has: nothing (it isn't there), or numbers of a lane. It is made once and used again. */
    private static final class Row {
        final int[] cells = new int[MOST_CELLS];
        boolean there = false;
        int lane = 0;
        int length = 0;

        void becomeNew(int newLane, int n) {
            Arrays.fill(cells, 0);
            there = true;
            lane = newLane;
            length = Math.max(0, Math.min(n, MOST_CELLS));
        }

        /** Nothing can be taken as a row of any lane. */
        boolean isUnlike(int asLane) {
            return there && lane != asLane;
        }

        /** Whether there are n cells from i on; the end is not summed up, as i + n may wrap. */
        boolean holds(int i, int n) {
            return i >= 0 && n >= 0 && n <= length && i <= length - n;
        }

        int at(int i) {
            return i >= 0 && i < length ? cells[i] : 0;
        }

        void keep(int i, int v) {
            if (i >= 0 && i < length) {
                cells[i] = cut(v);
            }
        }

        private int cut(int v) {
            switch (lane) {
                case 0:
                    return (byte) v;
                case 1:
                    return (short) v;
                default:
                    return v;
            }
        }
    }

    /** The flags and what he is able to; without flags there is no street. */
    private static final class Street {
        private static final int GRATING_CODE = 35, ZERO_CODE = 48;
        private static final int HEAD = 4;
        private static final int[] LEAST_HEAD_CODES = {115, 49, 49, 48};
        private static final int[] MOST_HEAD_CODES = {115, 52, 51, 50};

        final int[] kind = new int[MOST_FLAGS];
        final int[] taken = new int[MOST_FLAGS];
        final boolean[] grated = new boolean[MOST_FLAGS];
        int count = 0;
        int strength = 0;
        int kneeBears = 0;
        int soleBears = 0;

        boolean isNone() {
            return count == 0;
        }

        boolean has(int f) {
            return f >= 0 && f < count;
        }

        int dragOf(int f) {
            if (f < 0 || f >= count) {
                return 0;
            }
            switch (kind[f]) {
                case HILL:
                    return taken[f] + 1;
                case WET:
                    return taken[f] / 2;
                default:
                    return taken[f];
            }
        }

        void becomeLike(Street other) {
            System.arraycopy(other.kind, 0, kind, 0, MOST_FLAGS);
            System.arraycopy(other.taken, 0, taken, 0, MOST_FLAGS);
            System.arraycopy(other.grated, 0, grated, 0, MOST_FLAGS);
            count = other.count;
            strength = other.strength;
            kneeBears = other.kneeBears;
            soleBears = other.soleBears;
        }

        /** Becomes what the n cells tell: NONE, or the first fault, by which it is left half read. */
        int readText(Row row, int from, int n) {
            count = 0;
            int wrong = readHead(row, from, n);
            int place = HEAD;
            for (int k = 0; k < MOST_FLAGS && wrong == NONE && place < n; k++) {
                wrong = readFlag(row, from, n, place);
                place += 2;
                if (wrong == NONE && place < n && row.at(from + place) == GRATING_CODE) {
                    grated[k] = true;
                    place++;
                }
            }
            if (wrong != NONE) {
                return wrong;
            }
            if (place < n) {
                return place;
            }
            return count < LEAST_FLAGS ? n : NONE;
        }

        private int readHead(Row row, int from, int n) {
            for (int place = 0; place < HEAD; place++) {
                if (place >= n) {
                    return n;
                }
                int code = row.at(from + place);
                if (code < LEAST_HEAD_CODES[place] || code > MOST_HEAD_CODES[place]) {
                    return place;
                }
            }
            strength = row.at(from + 1) - ZERO_CODE;
            kneeBears = row.at(from + 2) - ZERO_CODE;
            soleBears = row.at(from + 3) - ZERO_CODE;
            return NONE;
        }

        /** Its letter and its digit, without a grating. */
        private int readFlag(Row row, int from, int n, int place) {
            int letterKind = kindOfLetter(row.at(from + place));
            if (letterKind == NONE || count >= MOST_FLAGS) {
                return place;
            }
            if (place + 1 >= n) {
                return n;
            }
            int digit = row.at(from + place + 1);
            if (digit < ZERO_CODE || digit > ZERO_CODE + MOST_TAKEN) {
                return place + 1;
            }
            kind[count] = letterKind;
            taken[count] = digit - ZERO_CODE;
            grated[count] = false;
            count++;
            return NONE;
        }

        private static int kindOfLetter(int code) {
            switch (code) {
                case 102:
                    return PLAIN;
                case 104:
                    return HILL;
                case 119:
                    return WET;
                default:
                    return NONE;
            }
        }
    }

    /**
     * How it stands behind the acts done so far. Only the knee he stands on is counted:
     * the other one is fresh again whenever he comes to stand on it.
     */
    private static final class Rider {
        private static final int WALKING_SECONDS = 3, GRATING_PACE = 4, BRAKED = 2;

        int flag = 0;
        int pace = 0;
        int foot = 0;
        int tired = 0;
        int soleLeft = 0;
        int seconds = 0;
        int pushes = 0;

        void begin(Street street) {
            flag = 0;
            pace = 0;
            foot = 0;
            tired = 0;
            soleLeft = street.soleBears;
            seconds = 0;
            pushes = 0;
        }

        boolean can(Street street, int act) {
            if (!street.has(flag)) {
                return false;
            }
            switch (act) {
                case PUSH:
                    return tired < street.kneeBears && pace < MOST_PACE;
                case CHANGE:
                    return true;
                case GLIDE:
                    return pace > 0;
                case BRAKE:
                    return soleLeft > 0 && pace > 0;
                default:
                    return act == CARRY;
            }
        }

        /** An act that can be. */
        void goBy(Street street, int act) {
            if (act == CARRY) {
                pace = 0;
                tired = 0;
                flag++;
                seconds += WALKING_SECONDS;
                return;
            }
            if (act == PUSH) {
                pace = Math.min(MOST_PACE, pace + street.strength);
                tired++;
                pushes++;
            } else if (act == CHANGE) {
                foot = 1 - foot;
                tired = 0;
            } else if (act == BRAKE) {
                pace = Math.max(0, pace - BRAKED);
                soleLeft--;
            }
            seconds++;
            roll(street);
        }

        private void roll(Street street) {
            pace = Math.max(0, pace - street.dragOf(flag));
            int steps = pace / 2;
            for (int k = 0; k < steps && street.has(flag); k++) {
                flag++;
                if (pace >= GRATING_PACE && street.has(flag) && street.grated[flag]) {
                    pace = 0;
                    return;
                }
            }
        }
    }

    /**
     * Goes through all that can be, second by second. How it stands is told by a place (flag, pace, tiredness
     * and sole; the foot makes no difference). A place is gone on from only when it is come to
     * with fewer pushes than in any second before.
     */
    private static final class Search {
        private static final int TIREDS = MOST_KNEE + 1, SOLES = MOST_SOLE + 1, PACES = MOST_PACE + 1;
        private static final int PLACES = MOST_FLAGS * PACES * TIREDS * SOLES;
        // An act ends at most 3 seconds later, so no more than 4 seconds have places waiting at a time.
        private static final int OPEN_SECONDS = 4;
        private static final int NEVER = 1000;

        private final Rider rider = new Rider();
        private final int[] fewest = new int[PLACES];
        private final int[] waiting = new int[OPEN_SECONDS * PLACES];
        private final int[] waitingPushes = new int[OPEN_SECONDS * PLACES];
        private final int[] waitingCount = new int[OPEN_SECONDS];
        private boolean countsPushes = false;
        private int limit = 0;
        private int best = NONE;

        Search() {
            Arrays.fill(waitingPushes, NEVER);
        }

        /** The fewest pushes, or else the fewest seconds, by which he is at the school within the seconds given. */
        int least(Street street, int seconds, boolean ofPushes) {
            countsPushes = ofPushes;
            limit = Math.min(seconds, MOST_SECONDS);
            best = NONE;
            Arrays.fill(fewest, NEVER);
            rider.begin(street);
            offerRider(street);
            // Also the seconds behind the limit are gone through: nothing is left waiting for the next search.
            for (int second = 0; second < MOST_SECONDS; second++) {
                int open = second % OPEN_SECONDS;
                int count = waitingCount[open];
                for (int k = 0; k < count; k++) {
                    int place = waiting[open * PLACES + k];
                    int pushes = waitingPushes[open * PLACES + place];
                    waitingPushes[open * PLACES + place] = NEVER;
                    if (second < limit && pushes < fewest[place]) {
                        fewest[place] = pushes;
                        goOnFrom(street, place, second, pushes);
                    }
                }
                waitingCount[open] = 0;
            }
            return best;
        }

        private void goOnFrom(Street street, int place, int second, int pushes) {
            for (int act = 0; act < ACTS; act++) {
                setRider(place, second, pushes);
                if (rider.can(street, act)) {
                    rider.goBy(street, act);
                    offerRider(street);
                }
            }
        }

        private void setRider(int place, int second, int pushes) {
            rider.soleLeft = place % SOLES;
            rider.tired = place / SOLES % TIREDS;
            rider.pace = place / (SOLES * TIREDS) % PACES;
            rider.flag = place / (SOLES * TIREDS * PACES);
            rider.foot = 0;
            rider.seconds = second;
            rider.pushes = pushes;
        }

        private void offerRider(Street street) {
            int pushes = countsPushes ? rider.pushes : 0;
            if (!street.has(rider.flag)) {
                arrive(pushes);
                return;
            }
            int place = ((rider.flag * PACES + rider.pace) * TIREDS + rider.tired) * SOLES + rider.soleLeft;
            if (rider.seconds >= limit || place < 0 || place >= PLACES || pushes >= fewest[place]) {
                return;
            }
            int open = rider.seconds % OPEN_SECONDS;
            int at = open * PLACES + place;
            if (waitingPushes[at] == NEVER && waitingCount[open] < PLACES) {
                waiting[open * PLACES + waitingCount[open]] = place;
                waitingCount[open]++;
            }
            waitingPushes[at] = Math.min(waitingPushes[at], pushes);
        }

        private void arrive(int pushes) {
            if (rider.seconds > limit) {
                return;
            }
            if (!countsPushes) {
                best = rider.seconds;
                limit = rider.seconds - 1;
            } else if (best == NONE || pushes < best) {
                best = pushes;
            }
        }
    }
}
