import java.util.Arrays;

/** Ways from a school to a home: what the promises of the document ask, a call each. */
public final class HomeByFour {
    public static final int UNKNOWN = -1, OUTSIDE = -2, STATE = -3, FULL = -4, NONE = -9;
    public static final long LOST = Long.MIN_VALUE;

    private static final int NO_FAULT = 0, NULL = 1, CAST = 2, INDEX = 3, SIZE = 4;
    private static final int FAULT_BASE = -10, WRONG_BASE = -100, JOY_BASE = 100000;
    private static final int STANDS = 0;
    private static final int SHEETS = 4, LANES = 3, MOST_CELLS = 60;
    private static final int SCHOOL = 0, MOST_PLACES = 7, MOST_STRETCHES = 9, KINDS = 3;
    private static final int FIRST_DUE = 45, MOST_DUE = 99, LAWS = 3, MOST_READINGS = 8;
    private static final int MOST_TOLD = 12, MOST_STEPS = 5, WORTH_STEPS = 4, MOST_MINUTES = 200;
    private static final int BY_JOY = 0, BY_SAFETY = 1, BY_TRAIL = 2;

    private final Sheet[] sheets;
    private final Net ways;
    private final Walk told;
    private final Search search;
    private final Quickest quick;
    private final Dawdling dawdling;
    private final Trace marks;
    private int latestFault;

    public HomeByFour() {
        sheets = new Sheet[SHEETS];
        for (int k = 0; k < SHEETS; k++) {
            sheets[k] = new Sheet();
        }
        ways = new Net();
        told = new Walk();
        search = new Search();
        quick = new Quickest();
        dawdling = new Dawdling();
        marks = new Trace();
        latestFault = NO_FAULT;
    }

    // ---- 1 the net

    public int net(int sheet, int lane, int i, int n) {
        Sheet from = sheetAt(sheet);
        if (from == null) {
            return refused(UNKNOWN);
        }
        if (!isWithin(lane, 0, LANES - 1)) {
            return refused(OUTSIDE);
        }
        int come = from.faultOfCells(lane, i, n);
        if (come != NO_FAULT) {
            return failed(come);
        }
        latestFault = NO_FAULT;
        Text text = new Text(from, i, n);
        int firstFault = text.firstFault();
        if (firstFault != NONE) {
            return WRONG_BASE - firstFault;
        }
        ways.takeOver(text);
        return ways.count;
    }

    public int ofStretch(int k, int what) {
        Stretch stretch = ways.stretchAt(k);
        if (stretch == null) {
            return UNKNOWN;
        }
        switch (what) {
            case 0: return stretch.kind();
            case 1: return stretch.onePlace;
            case 2: return stretch.otherPlace;
            case 3: return stretch.length;
            case 4: return stretch.sights;
            case 5: return stretch.danger;
            case 6: return stretch.minutes;
            case 7: return stretch.closed ? 1 : 0;
            default: return OUTSIDE;
        }
    }

    public int due(int v) {
        if (!isWithin(v, 0, MOST_DUE)) {
            return OUTSIDE;
        }
        if (ways.isNone()) {
            return STATE;
        }
        int was = ways.dueBehind;
        ways.dueBehind = v;
        return was;
    }

    public int law(int v) {
        if (!isWithin(v, 0, LAWS - 1)) {
            return OUTSIDE;
        }
        if (ways.isNone()) {
            return STATE;
        }
        int was = ways.lateLaw;
        ways.lateLaw = v;
        return was;
    }

    public int friend(int place) {
        if (place != NONE && !ways.hasPlace(place)) {
            return UNKNOWN;
        }
        if (ways.isNone()) {
            return STATE;
        }
        int was = ways.friendTo;
        ways.befriend(place);
        return was;
    }

    public int close(int k, boolean is) {
        Stretch stretch = ways.stretchAt(k);
        if (stretch == null) {
            return UNKNOWN;
        }
        if (stretch.closed == is) {
            return 0;
        }
        stretch.closed = is;
        return 1;
    }

    // ---- 2 walks

    public int walk(int sheet, int lane, int i, int n, int what) {
        int stood = followTold(sheet, lane, i, n, isWithin(what, 0, 3));
        if (stood != STANDS) {
            return stood;
        }
        switch (what) {
            case 0: return told.place;
            case 1: return told.minutes;
            case 2: return told.sights;
            default: return JOY_BASE + ways.joyOf(told);
        }
    }

    public long safe(int sheet, int lane, int i, int n, int which) {
        int stood = followTold(sheet, lane, i, n, isWithin(which, 0, 1));
        if (stood != STANDS) {
            return LOST;
        }
        return inLeastTerms(told.tenths, powerOf(10, told.steps), which);
    }

    // ---- 3 the quickest, the best, the safest

    public int quickest(int place) {
        if (!ways.hasPlace(place)) {
            return UNKNOWN;
        }
        return quick.leastMinutes(ways, SCHOOL, place);
    }

    public int via(int place) {
        if (!ways.hasPlace(place)) {
            return UNKNOWN;
        }
        int there = quick.leastMinutes(ways, SCHOOL, place);
        int onward = quick.leastMinutes(ways, place, ways.home());
        return there == NONE || onward == NONE ? NONE : there + onward;
    }

    public int best(int n, int q) {
        int refusal = refusalOfSearch(n, q);
        if (refusal != STANDS) {
            return refusal;
        }
        search.look(ways, BY_JOY, n, 0);
        return q == -1 ? joyFound() : search.stretchFound(q);
    }

    public int safest(int n, int q) {
        int refusal = refusalOfSearch(n, q);
        if (refusal != STANDS) {
            return refusal;
        }
        search.look(ways, BY_SAFETY, n, 0);
        if (q != -1) {
            return search.stretchFound(q);
        }
        return search.found == 0 ? NONE : search.score;
    }

    public int worth(int k) {
        Stretch stretch = ways.stretchAt(k);
        if (stretch == null) {
            return UNKNOWN;
        }
        search.look(ways, BY_JOY, WORTH_STEPS, 0);
        int with = joyFound();
        boolean was = stretch.closed;
        stretch.closed = true;
        search.look(ways, BY_JOY, WORTH_STEPS, 0);
        int without = joyFound();
        stretch.closed = was;
        return with == NONE || without == NONE ? NONE : with - without;
    }

    // ---- 4 trails, dawdling

    public int reading(int k, boolean was) {
        if (ways.stretchAt(k) == null) {
            return UNKNOWN;
        }
        if (ways.readings >= MOST_READINGS) {
            return FULL;
        }
        return ways.addReading(k, was);
    }

    public int back(int k) {
        if (!isWithin(k, 0, ways.readings)) {
            return OUTSIDE;
        }
        ways.readings -= k;
        return ways.readings;
    }

    public int trails(int n, int t, int q) {
        if (!isWithin(t, 0, MOST_MINUTES)) {
            return OUTSIDE;
        }
        int refusal = refusalOfSearch(n, q);
        if (refusal != STANDS) {
            return refusal;
        }
        search.look(ways, BY_TRAIL, n, t);
        return q == -1 ? search.found : search.stretchFound(q);
    }

    public long dawdle(int n, int place, int which) {
        if (!ways.hasPlace(place) || !isWithin(n, 0, MOST_STEPS) || !isWithin(which, 0, 1)) {
            return LOST;
        }
        long upper = dawdling.partsAt(ways, n, place);
        return inLeastTerms(upper, powerOf(Dawdling.PARTS, n), which);
    }

    // ---- 5 sheets, parts

    public int sheet(int k, int lane, int n) {
        Sheet one = sheetAt(k);
        if (one == null) {
            return refused(UNKNOWN);
        }
        if (!isWithin(lane, 0, LANES - 1) || n > MOST_CELLS) {
            return refused(OUTSIDE);
        }
        if (n < 0) {
            return failed(SIZE);
        }
        latestFault = NO_FAULT;
        one.begin(lane, n);
        return 1;
    }

    public int lose(int k) {
        Sheet one = sheetAt(k);
        if (one == null) {
            return UNKNOWN;
        }
        if (one.hasNothing()) {
            return 0;
        }
        one.drop();
        return 1;
    }

    public int put(int k, int i, int v) {
        Sheet one = sheetAt(k);
        if (one == null) {
            return refused(UNKNOWN);
        }
        if (one.hasNothing()) {
            return failed(NULL);
        }
        if (!one.hasCell(i)) {
            return failed(INDEX);
        }
        latestFault = NO_FAULT;
        one.write(i, v);
        return 1;
    }

    public long cell(int k, int i, int lane) {
        Sheet one = sheetAt(k);
        if (one == null || !isWithin(lane, 0, LANES - 1)) {
            latestFault = NO_FAULT;
            return LOST;
        }
        latestFault = one.faultOfRow(lane);
        if (latestFault == NO_FAULT && !one.hasCell(i)) {
            latestFault = INDEX;
        }
        return latestFault == NO_FAULT ? one.read(i) : LOST;
    }

    public int copy(int k, int i, int other, int j, int n) {
        Sheet from = sheetAt(k);
        Sheet to = sheetAt(other);
        if (from == null || to == null) {
            return refused(UNKNOWN);
        }
        if (from.hasNothing() || to.hasNothing()) {
            return failed(NULL);
        }
        if (from.lane != to.lane) {
            return failed(CAST);
        }
        if (!from.hasCells(i, n) || !to.hasCells(j, n)) {
            return failed(INDEX);
        }
        latestFault = NO_FAULT;
        System.arraycopy(from.cells, i, to.cells, j, n);
        return n;
    }

    public int tell(int k) {
        Stretch stretch = ways.stretchAt(k);
        return stretch == null ? UNKNOWN : stretch.toldWith(marks);
    }

    public int sing(int k) {
        Stretch stretch = ways.stretchAt(k);
        return stretch == null ? UNKNOWN : stretch.sungWith(marks);
    }

    public int as(int k, int kind) {
        Stretch stretch = ways.stretchAt(k);
        if (stretch == null) {
            return refused(UNKNOWN);
        }
        if (!isWithin(kind, 0, KINDS - 1)) {
            return refused(OUTSIDE);
        }
        if (kind == 1 && !(stretch instanceof Muddy) || kind == 2 && !(stretch instanceof Steep)) {
            return failed(CAST);
        }
        latestFault = NO_FAULT;
        return 1;
    }

    public int trace() {
        return marks.left;
    }

    public int fault() {
        return latestFault;
    }

    public int many(int what) {
        switch (what) {
            case 0: return ways.places;
            case 1: return ways.count;
            case 2: return ways.dueBehind;
            case 3: return ways.lateLaw;
            case 4: return ways.readings;
            default: return OUTSIDE;
        }
    }

    // ---- what the calls share

    private static boolean isWithin(int v, int least, int most) {
        return v >= least && v <= most;
    }

    private int refused(int refusal) {
        latestFault = NO_FAULT;
        return refusal;
    }

    private int failed(int come) {
        latestFault = come;
        return FAULT_BASE - come;
    }

    private Sheet sheetAt(int k) {
        return isWithin(k, 0, SHEETS - 1) ? sheets[k] : null;
    }

    /** Follows a walk of cells into told: STANDS, or what walk() answers instead. */
    private int followTold(int sheet, int lane, int i, int n, boolean asksWell) {
        Sheet from = sheetAt(sheet);
        if (from == null) {
            return refused(UNKNOWN);
        }
        if (!isWithin(lane, 0, LANES - 1) || !asksWell) {
            return refused(OUTSIDE);
        }
        if (ways.isNone()) {
            return refused(STATE);
        }
        int come = from.faultOfCells(lane, i, n);
        if (come != NO_FAULT) {
            return failed(come);
        }
        latestFault = NO_FAULT;
        if (n > MOST_TOLD) {
            return OUTSIDE;
        }
        if (!areStretches(from, i, n)) {
            return UNKNOWN;
        }
        return followCells(from, i, n);
    }

    private boolean areStretches(Sheet from, int i, int n) {
        for (int step = 0; step < n; step++) {
            if (ways.stretchAt(from.read(i + step)) == null) {
                return false;
            }
        }
        return true;
    }

    private int followCells(Sheet from, int i, int n) {
        told.begin();
        for (int step = 0; step < n; step++) {
            Stretch stretch = ways.stretchAt(from.read(i + step));
            if (stretch == null || !stretch.leadsFrom(told.place)) {
                return WRONG_BASE - step;
            }
            told.follow(told, stretch);
        }
        return STANDS;
    }

    private int refusalOfSearch(int n, int q) {
        if (!isWithin(n, 1, MOST_STEPS) || !isWithin(q, -1, MOST_STEPS - 1)) {
            return OUTSIDE;
        }
        return ways.isNone() ? STATE : STANDS;
    }

    private int joyFound() {
        return search.found == 0 ? NONE : JOY_BASE + search.score;
    }

    private static long powerOf(long base, int times) {
        long power = 1;
        for (int k = 0; k < times; k++) {
            power *= base;
        }
        return power;
    }

    private static long inLeastTerms(long upper, long lower, int which) {
        long common = commonDivisor(upper, lower);
        if (common == 0) {
            return LOST;
        }
        return (which == 0 ? upper : lower) / common;
    }

    private static long commonDivisor(long one, long another) {
        long a = one;
        long b = another;
        // Euclid's way takes fewer than 93 steps for longs.
        for (int step = 0; step < 100 && b != 0; step++) {
            long rest = a % b;
            a = b;
            b = rest;
        }
        return a;
    }

    /** A row of a lane, or nothing; its cells are kept as ints that have been cut to the lane. */
    private static final class Sheet {
        private static final int NOTHING = -1;

        final int[] cells;
        int lane;
        int length;

        Sheet() {
            cells = new int[MOST_CELLS];
            lane = NOTHING;
            length = 0;
        }

        void begin(int newLane, int n) {
            Arrays.fill(cells, 0);
            lane = newLane;
            length = n;
        }

        void drop() {
            lane = NOTHING;
            length = 0;
        }

        boolean hasNothing() {
            return lane == NOTHING;
        }

        boolean hasCell(int i) {
            return i >= 0 && i < length;
        }

        boolean hasCells(int i, int n) {
            // The difference can't wrap, as the sum i + n could.
            return i >= 0 && i <= length && n >= 0 && n <= length - i;
        }

        int read(int i) {
            return hasCell(i) ? cells[i] : 0;
        }

        void write(int i, int v) {
            if (hasCell(i)) {
                cells[i] = lane == 0 ? (byte) v : lane == 1 ? (short) v : v;
            }
        }

        int faultOfRow(int asLane) {
            if (hasNothing()) {
                return NULL;
            }
            return lane == asLane ? NO_FAULT : CAST;
        }

        int faultOfCells(int asLane, int i, int n) {
            int come = faultOfRow(asLane);
            if (come != NO_FAULT) {
                return come;
            }
            if (n < 0) {
                return SIZE;
            }
            return hasCells(i, n) ? NO_FAULT : INDEX;
        }
    }

    /** The text of a net, in cells of a sheet. */
    private static final class Text {
        private static final int HEAD = 2, PART = 7;

        final Sheet sheet;
        final int start;
        final int length;

        Text(Sheet sheet, int start, int length) {
            this.sheet = sheet;
            this.start = start;
            this.length = length;
        }

        int firstFault() {
            for (int p = 0; p < length; p++) {
                if (!goesOnAt(p)) {
                    return p;
                }
            }
            boolean isWhole = length >= HEAD + PART && (length - HEAD) % PART == 0;
            return isWhole ? NONE : length;
        }

        boolean goesOnAt(int p) {
            if (p == 0) {
                return codeAt(p) == 'n';
            }
            if (p == 1) {
                return isDigitAt(p, 2, MOST_PLACES);
            }
            switch ((p - HEAD) % PART) {
                case 0: return codeAt(p) == ';' && (p - HEAD) / PART < MOST_STRETCHES;
                case 1: return isKindAt(p);
                case 2: return isDigitAt(p, 0, places() - 1);
                case 3: return isDigitAt(p, 0, places() - 1) && codeAt(p) != codeAt(p - 1);
                case 4: return isDigitAt(p, 1, 9);
                default: return isDigitAt(p, 0, 9);
            }
        }

        int places() {
            return codeAt(1) - '0';
        }

        int stretches() {
            return (length - HEAD) / PART;
        }

        Stretch makeStretch(int k) {
            int at = HEAD + k * PART + 2;
            int one = digitAt(at);
            int other = digitAt(at + 1);
            int extent = digitAt(at + 2);
            int sights = digitAt(at + 3);
            int danger = digitAt(at + 4);
            switch (codeAt(at - 1)) {
                case 'm': return new Muddy(k, one, other, extent, sights, danger);
                case 'p': return new Steep(k, one, other, extent, sights, danger);
                default: return new Stretch(k, one, other, extent, sights, danger);
            }
        }

        private int codeAt(int p) {
            return p >= 0 && p < length ? sheet.read(start + p) : NONE;
        }

        private int digitAt(int p) {
            return codeAt(p) - '0';
        }

        private boolean isDigitAt(int p, int least, int most) {
            return isWithin(codeAt(p), '0' + least, '0' + most);
        }

        private boolean isKindAt(int p) {
            int code = codeAt(p);
            return code == 's' || code == 'm' || code == 'p';
        }
    }

    /** The marks that bodies leave as they begin. */
    private static final class Trace {
        int left = 0;

        void leave(int number) {
            left = 31 * left + number;
        }
    }

    private static class Stretch {
        final int number;
        final int onePlace;
        final int otherPlace;
        final int length;
        final int sights;
        final int danger;
        int minutes;
        int tenths;
        boolean closed;

        Stretch(int number, int onePlace, int otherPlace, int length, int sights, int danger) {
            this.number = number;
            this.onePlace = onePlace;
            this.otherPlace = otherPlace;
            this.length = length;
            this.sights = sights;
            this.danger = danger;
            this.minutes = 0;
            this.tenths = 0;
            this.closed = false;
        }

        int kind() {
            return 0;
        }

        int minutesAlone() {
            return length;
        }

        /** Minutes and tenths are kept, as a search asks for them some hundred thousand times. */
        final void shareWith(int friendTo) {
            boolean isShared = onePlace <= friendTo && otherPlace <= friendTo;
            minutes = isShared ? minutesAlone() + 1 : minutesAlone();
            tenths = isShared ? 10 : 10 - danger;
        }

        final boolean leadsFrom(int place) {
            return !closed && (onePlace == place || otherPlace == place);
        }

        final int otherEnd(int place) {
            return place == onePlace ? otherPlace : onePlace;
        }

        int toldWith(Trace marks) {
            return toldAsStretch(marks);
        }

        // Apart from toldWith, so that a steep one can leave the muddy body out.
        final int toldAsStretch(Trace marks) {
            marks.leave(1);
            return length;
        }

        int sungWith(Trace marks) {
            marks.leave(4);
            return number;
        }
    }

    private static class Muddy extends Stretch {
        Muddy(int number, int onePlace, int otherPlace, int length, int sights, int danger) {
            super(number, onePlace, otherPlace, length, sights, danger);
        }

        @Override
        int kind() {
            return 1;
        }

        @Override
        int minutesAlone() {
            return length + 1;
        }

        @Override
        int toldWith(Trace marks) {
            marks.leave(2);
            return super.toldWith(marks) + 100;
        }
    }

    private static final class Steep extends Muddy {
        Steep(int number, int onePlace, int otherPlace, int length, int sights, int danger) {
            super(number, onePlace, otherPlace, length, sights, danger);
        }

        @Override
        int kind() {
            return 2;
        }

        @Override
        int minutesAlone() {
            return 2 * super.minutesAlone();
        }

        @Override
        int toldWith(Trace marks) {
            marks.leave(3);
            int asMuddy = super.toldWith(marks);
            return asMuddy + toldAsStretch(marks);
        }

        @Override
        int sungWith(Trace marks) {
            marks.leave(5);
            return 40;
        }
    }

    /** Places and stretches, and all that a new text makes anew. */
    private static final class Net {
        final Stretch[] stretches;
        final int[] readOf;
        final boolean[] readMud;
        int places;
        int count;
        int dueBehind;
        int lateLaw;
        int friendTo;
        int readings;

        Net() {
            stretches = new Stretch[MOST_STRETCHES];
            readOf = new int[MOST_READINGS];
            readMud = new boolean[MOST_READINGS];
            friendTo = NONE;
        }

        void takeOver(Text text) {
            places = text.places();
            count = Math.min(text.stretches(), MOST_STRETCHES);
            for (int k = 0; k < count; k++) {
                stretches[k] = text.makeStretch(k);
            }
            dueBehind = FIRST_DUE;
            lateLaw = 0;
            readings = 0;
            befriend(NONE);
        }

        void befriend(int place) {
            friendTo = place;
            for (int k = 0; k < count; k++) {
                Stretch stretch = stretchAt(k);
                if (stretch != null) {
                    stretch.shareWith(friendTo);
                }
            }
        }

        boolean isNone() {
            return places == 0;
        }

        boolean hasPlace(int place) {
            return place >= 0 && place < places;
        }

        int home() {
            return places - 1;
        }

        Stretch stretchAt(int k) {
            return k >= 0 && k < count && k < stretches.length ? stretches[k] : null;
        }

        int addReading(int k, boolean was) {
            if (readings >= MOST_READINGS) {
                return FULL;
            }
            readOf[readings] = k;
            readMud[readings] = was;
            readings++;
            return readings - 1;
        }

        /** The stretches of which a reading says that there was mud, or not, as a set. */
        int readSet(boolean was) {
            int set = 0;
            for (int r = 0; r < readings && r < MOST_READINGS; r++) {
                if (readMud[r] == was) {
                    set |= 1 << readOf[r];
                }
            }
            return set;
        }

        int muddySet() {
            int set = 0;
            for (int k = 0; k < count; k++) {
                if (stretchAt(k) instanceof Muddy) {
                    set |= 1 << k;
                }
            }
            return set;
        }

        int joyOf(Walk walk) {
            int late = walk.minutes - dueBehind;
            return late <= 0 ? walk.sights : walk.sights - costOf(late);
        }

        private int costOf(int late) {
            switch (lateLaw) {
                case 1: return late <= 5 ? 0 : 3 * (late - 5);
                case 2: return late * late;
                default: return late;
            }
        }
    }

    /** What is known of a walk at its end. */
    private static final class Walk {
        int place;
        int steps;
        int minutes;
        int sights;
        int gone;
        long tenths;

        void begin() {
            place = SCHOOL;
            steps = 0;
            minutes = 0;
            sights = 0;
            gone = 0;
            tenths = 1;
        }

        /** Becomes the walk before (which may be this one) and the stretch. */
        void follow(Walk before, Stretch stretch) {
            int bit = 1 << stretch.number;
            boolean isNew = (before.gone & bit) == 0;
            place = stretch.otherEnd(before.place);
            steps = before.steps + 1;
            minutes = before.minutes + stretch.minutes;
            sights = before.sights + (isNew ? stretch.sights : 0);
            gone = before.gone | bit;
            tenths = before.tenths * stretch.tenths;
        }
    }

    /** Goes through all walks that end at home, and keeps the one that the goal asks for. */
    private static final class Search {
        final Walk[] walks;
        final int[] row;
        final int[] kept;
        int keptSteps;
        int found;
        int score;
        Net net;
        int goal;
        int most;
        int minutes;
        int wantedMud;
        int unwantedMud;
        int muddy;

        Search() {
            walks = new Walk[MOST_STEPS + 1];
            for (int k = 0; k <= MOST_STEPS; k++) {
                walks[k] = new Walk();
            }
            row = new int[MOST_STEPS];
            kept = new int[MOST_STEPS];
        }

        void look(Net inNet, int forGoal, int steps, int inMinutes) {
            net = inNet;
            goal = forGoal;
            most = Math.min(steps, MOST_STEPS);
            minutes = inMinutes;
            wantedMud = net.readSet(true);
            unwantedMud = net.readSet(false);
            muddy = net.muddySet();
            found = 0;
            score = 0;
            keptSteps = 0;
            walks[0].begin();
            goOn(0);
        }

        int stretchFound(int q) {
            return q >= 0 && q < keptSteps && q < kept.length ? kept[q] : NONE;
        }

        private void goOn(int steps) {
            if (steps < 0 || steps >= most || steps >= MOST_STEPS) {
                return;
            }
            Walk before = walks[steps];
            Walk after = walks[steps + 1];
            for (int k = 0; k < net.count; k++) {
                Stretch stretch = net.stretchAt(k);
                if (stretch != null && stretch.leadsFrom(before.place)) {
                    row[steps] = k;
                    after.follow(before, stretch);
                    if (after.place == net.home()) {
                        weigh(after);
                    }
                    goOn(steps + 1);
                }
            }
        }

        // Walks of as many steps come in the order of their rows, so the first of them stays.
        private void weigh(Walk walk) {
            if (goal == BY_TRAIL && !isTrail(walk)) {
                return;
            }
            int itsScore = scoreOf(walk);
            if (found == 0 || itsScore > score || itsScore == score && walk.steps < keptSteps) {
                score = itsScore;
                keptSteps = Math.min(walk.steps, MOST_STEPS);
                System.arraycopy(row, 0, kept, 0, keptSteps);
            }
            found++;
        }

        private boolean isTrail(Walk walk) {
            int mud = walk.gone & muddy;
            return walk.minutes <= minutes
                    && (mud & wantedMud) == wantedMud
                    && (mud & unwantedMud) == 0;
        }

        private int scoreOf(Walk walk) {
            switch (goal) {
                case BY_JOY: return net.joyOf(walk);
                case BY_SAFETY: return (int) (walk.tenths * powerOf(10, MOST_STEPS - walk.steps));
                default: return 0;
            }
        }
    }

    /** The least minutes between two places. */
    private static final class Quickest {
        private static final int FAR = 1000000;

        final int[] least;

        Quickest() {
            least = new int[MOST_PLACES];
        }

        int leastMinutes(Net net, int from, int to) {
            if (!net.hasPlace(from) || !net.hasPlace(to)) {
                return NONE;
            }
            Arrays.fill(least, FAR);
            least[from] = 0;
            // A quickest way has fewer stretches than there are places.
            for (int round = 1; round < net.places; round++) {
                shorten(net);
            }
            return least[to] >= FAR ? NONE : least[to];
        }

        private void shorten(Net net) {
            for (int k = 0; k < net.count; k++) {
                Stretch stretch = net.stretchAt(k);
                if (stretch != null && !stretch.closed) {
                    shortenTo(stretch.otherPlace, stretch.onePlace, stretch.minutes);
                    shortenTo(stretch.onePlace, stretch.otherPlace, stretch.minutes);
                }
            }
        }

        private void shortenTo(int to, int from, int minutes) {
            if (isWithin(to, 0, MOST_PLACES - 1) && isWithin(from, 0, MOST_PLACES - 1)) {
                least[to] = Math.min(least[to], least[from] + minutes);
            }
        }
    }

    /** How likely one is where, by stretches that are taken all alike. */
    private static final class Dawdling {
        /** Each step is told in so many parts, which 1 to 9 stretches share without a rest. */
        static final int PARTS = 2520;

        final long[] now;
        final long[] next;

        Dawdling() {
            now = new long[MOST_PLACES];
            next = new long[MOST_PLACES];
        }

        /** In parts of PARTS to the power of n, which a long holds up to n 5. */
        long partsAt(Net net, int n, int place) {
            Arrays.fill(now, 0);
            now[SCHOOL] = 1;
            for (int step = 0; step < n; step++) {
                Arrays.fill(next, 0);
                for (int from = 0; from < net.places && from < MOST_PLACES; from++) {
                    share(net, from);
                }
                System.arraycopy(next, 0, now, 0, MOST_PLACES);
            }
            return isWithin(place, 0, MOST_PLACES - 1) ? now[place] : 0;
        }

        private void share(Net net, int from) {
            int ways = waysFrom(net, from);
            if (ways == 0) {
                add(from, now[from] * PARTS);
                return;
            }
            long each = now[from] * (PARTS / ways);
            for (int k = 0; k < net.count; k++) {
                Stretch stretch = net.stretchAt(k);
                if (stretch != null && stretch.leadsFrom(from)) {
                    add(stretch.otherEnd(from), each);
                }
            }
        }

        private void add(int to, long parts) {
            if (isWithin(to, 0, MOST_PLACES - 1)) {
                next[to] += parts;
            }
        }

        private int waysFrom(Net net, int from) {
            int ways = 0;
            for (int k = 0; k < net.count; k++) {
                Stretch stretch = net.stretchAt(k);
                if (stretch != null && stretch.leadsFrom(from)) {
                    ways++;
                }
            }
            return ways;
        }
    }
}
