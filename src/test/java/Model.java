import java.math.BigInteger;
import java.util.ArrayList;
import java.util.Arrays;
import java.util.List;
import java.util.regex.Matcher;
import java.util.regex.Pattern;

/**
 * The document told a second time, by other means than HomeByFour's: texts by patterns, walks by counting rows,
 * faults by the machine's own exceptions, shares by big numbers. It is slow, and only tests use it.
 */
final class Model {
    private static final int UNKNOWN = -1, OUTSIDE = -2, STATE = -3, FULL = -4, NONE = -9;
    private static final long LOST = Long.MIN_VALUE;
    private static final Pattern[] TEXTS = new Pattern[8];

    private record Part(char letter, int a, int b, int length, int sights, int danger) { }

    private record Note(int stretch, boolean mud) { }

    /** An upper and a lower number, always in least terms. */
    private record Share(BigInteger upper, BigInteger lower) {
        static Share of(long upper, long lower) {
            BigInteger u = BigInteger.valueOf(upper);
            BigInteger l = BigInteger.valueOf(lower);
            BigInteger g = u.gcd(l);
            return new Share(u.divide(g), l.divide(g));
        }

        Share times(Share o) {
            return reduced(upper.multiply(o.upper), lower.multiply(o.lower));
        }

        Share plus(Share o) {
            return reduced(upper.multiply(o.lower).add(o.upper.multiply(lower)), lower.multiply(o.lower));
        }

        private static Share reduced(BigInteger u, BigInteger l) {
            BigInteger g = u.gcd(l);
            return new Share(u.divide(g), l.divide(g));
        }

        int compare(Share o) {
            return upper.multiply(o.lower).compareTo(o.upper.multiply(lower));
        }

        long told(int which) {
            return (which == 0 ? upper : lower).longValueExact();
        }
    }

    /** Stands for a refusal, a fault or a wrong stretch on the way to an answer. */
    private static final class Answered extends RuntimeException {
        private static final long serialVersionUID = 1;
        private final int answer;

        Answered(int answer) {
            super(null, null, false, false);
            this.answer = answer;
        }
    }

    private final Object[] sheets = new Object[4];
    private final List<Part> parts = new ArrayList<>();
    private final List<Note> notes = new ArrayList<>();
    private final boolean[] closed = new boolean[9];
    private int places = 0;
    private int due = 0;
    private int law = 0;
    private int friend = NONE;
    private int trace = 0;
    private int fault = 0;

    // ---- 1 the net

    int net(int sheet, int lane, int i, int n) {
        fault = 0;
        if (sheet < 0 || sheet > 3) {
            return UNKNOWN;
        }
        if (lane < 0 || lane > 2) {
            return OUTSIDE;
        }
        int[] cells;
        try {
            cells = cellsOf(sheet, lane, i, n);
        } catch (Answered a) {
            return a.answer;
        }
        StringBuilder text = new StringBuilder();
        for (int code : cells) {
            text.append(code < 0 || code > 255 ? (char) 255 : (char) code);
        }
        for (int p = 1; p <= text.length(); p++) {
            if (!canGoOn(text.substring(0, p))) {
                return -100 - (p - 1);
            }
        }
        if (!isText(text.toString())) {
            return -100 - n;
        }
        take(text.toString());
        return parts.size();
    }

    private static Pattern textOf(int n) {
        if (TEXTS[n] == null) {
            List<String> pairs = new ArrayList<>();
            for (int a = 0; a < n; a++) {
                for (int b = 0; b < n; b++) {
                    if (a != b) {
                        pairs.add("" + a + b);
                    }
                }
            }
            TEXTS[n] = Pattern.compile("n" + n + "(;[smp](" + String.join("|", pairs) + ")[1-9][0-9][0-9]){1,9}");
        }
        return TEXTS[n];
    }

    private static boolean canGoOn(String start) {
        for (int n = 2; n <= 7; n++) {
            Matcher m = textOf(n).matcher(start);
            if (m.matches() || m.hitEnd()) {
                return true;
            }
        }
        return false;
    }

    private static boolean isText(String text) {
        for (int n = 2; n <= 7; n++) {
            if (textOf(n).matcher(text).matches()) {
                return true;
            }
        }
        return false;
    }

    private void take(String text) {
        parts.clear();
        notes.clear();
        Arrays.fill(closed, false);
        String[] told = text.split(";");
        places = told[0].charAt(1) - '0';
        for (int k = 1; k < told.length; k++) {
            char[] t = told[k].toCharArray();
            parts.add(new Part(t[0], t[1] - '0', t[2] - '0', t[3] - '0', t[4] - '0', t[5] - '0'));
        }
        due = 45;
        law = 0;
        friend = NONE;
    }

    private boolean isPart(int k) {
        return k >= 0 && k < parts.size();
    }

    private boolean isPlace(int p) {
        return p >= 0 && p < places;
    }

    private int kindOf(int k) {
        return "smp".indexOf(parts.get(k).letter);
    }

    private boolean isShared(int k) {
        return friend != NONE && Math.max(parts.get(k).a, parts.get(k).b) <= friend;
    }

    private int takes(int k) {
        int length = parts.get(k).length;
        int[] byKind = {length, length + 1, length + 1 + length + 1};
        return byKind[kindOf(k)] + (isShared(k) ? 1 : 0);
    }

    int ofStretch(int k, int what) {
        if (!isPart(k)) {
            return UNKNOWN;
        }
        if (what < 0 || what > 7) {
            return OUTSIDE;
        }
        Part p = parts.get(k);
        return new int[] {kindOf(k), p.a, p.b, p.length, p.sights, p.danger, takes(k), closed[k] ? 1 : 0}[what];
    }

    int due(int v) {
        if (v < 0 || v > 99) {
            return OUTSIDE;
        }
        if (places == 0) {
            return STATE;
        }
        int was = due;
        due = v;
        return was;
    }

    int law(int v) {
        if (v < 0 || v > 2) {
            return OUTSIDE;
        }
        if (places == 0) {
            return STATE;
        }
        int was = law;
        law = v;
        return was;
    }

    int friend(int place) {
        if (place == NONE && places == 0) {
            return STATE;
        }
        if (place != NONE && !isPlace(place)) {
            return UNKNOWN;
        }
        int was = friend;
        friend = place;
        return was;
    }

    int close(int k, boolean is) {
        if (!isPart(k)) {
            return UNKNOWN;
        }
        boolean was = closed[k];
        closed[k] = is;
        return was == is ? 0 : 1;
    }

    // ---- 2 walks

    /** Where a row ends; or -100 less the first wrong one. */
    private int endOf(int[] row) {
        int at = 0;
        for (int s = 0; s < row.length; s++) {
            Part p = parts.get(row[s]);
            if (closed[row[s]] || p.a != at && p.b != at) {
                return -100 - s;
            }
            at = p.a + p.b - at;
        }
        return at;
    }

    private int minutesOf(int[] row) {
        return Arrays.stream(row).map(this::takes).sum();
    }

    private int sightsOf(int[] row) {
        return Arrays.stream(row).distinct().map(k -> parts.get(k).sights).sum();
    }

    private int joyOf(int[] row) {
        int late = Math.max(0, minutesOf(row) - due);
        int cost = law == 0 ? late : law == 1 ? 3 * Math.max(0, late - 5) : late * late;
        return sightsOf(row) - cost;
    }

    private Share safetyOf(int[] row) {
        Share all = Share.of(1, 1);
        for (int k : row) {
            all = all.times(Share.of(isShared(k) ? 10 : 10 - parts.get(k).danger, 10));
        }
        return all;
    }

    private int[] toldRow(int sheet, int lane, int i, int n, boolean asksWell) {
        fault = 0;
        if (sheet < 0 || sheet > 3) {
            throw new Answered(UNKNOWN);
        }
        if (lane < 0 || lane > 2 || !asksWell) {
            throw new Answered(OUTSIDE);
        }
        if (places == 0) {
            throw new Answered(STATE);
        }
        int[] row = cellsOf(sheet, lane, i, n);
        if (n > 12) {
            throw new Answered(OUTSIDE);
        }
        for (int k : row) {
            if (!isPart(k)) {
                throw new Answered(UNKNOWN);
            }
        }
        if (endOf(row) <= -100) {
            throw new Answered(endOf(row));
        }
        return row;
    }

    int walk(int sheet, int lane, int i, int n, int what) {
        try {
            int[] row = toldRow(sheet, lane, i, n, what >= 0 && what <= 3);
            return new int[] {endOf(row), minutesOf(row), sightsOf(row), joyOf(row) + 100000}[what];
        } catch (Answered a) {
            return a.answer;
        }
    }

    long safe(int sheet, int lane, int i, int n, int which) {
        try {
            return safetyOf(toldRow(sheet, lane, i, n, which >= 0 && which <= 1)).told(which);
        } catch (Answered a) {
            return LOST;
        }
    }

    // ---- 3 the quickest, the best, the safest

    /** The least minutes between all places, by Floyd's way; far ones are above 9999. */
    private int[][] distances() {
        int[][] d = new int[places][places];
        for (int a = 0; a < places; a++) {
            Arrays.fill(d[a], 10000);
            d[a][a] = 0;
        }
        for (int k = 0; k < parts.size(); k++) {
            Part p = parts.get(k);
            if (!closed[k]) {
                d[p.a][p.b] = Math.min(d[p.a][p.b], takes(k));
                d[p.b][p.a] = d[p.a][p.b];
            }
        }
        for (int m = 0; m < places; m++) {
            for (int a = 0; a < places; a++) {
                for (int b = 0; b < places; b++) {
                    d[a][b] = Math.min(d[a][b], d[a][m] + d[m][b]);
                }
            }
        }
        return d;
    }

    int quickest(int place) {
        if (!isPlace(place)) {
            return UNKNOWN;
        }
        int least = distances()[0][place];
        return least > 9999 ? NONE : least;
    }

    int via(int place) {
        if (!isPlace(place)) {
            return UNKNOWN;
        }
        int[][] d = distances();
        int least = d[0][place] + d[place][places - 1];
        return least > 9999 ? NONE : least;
    }

    /** All walks home, the shorter ones ahead, those of a length in the order of their rows. */
    private List<int[]> walksHome(int n) {
        List<int[]> walks = new ArrayList<>();
        for (int length = 1; length <= n; length++) {
            int rows = (int) Math.round(Math.pow(parts.size(), length));
            for (int number = 0; number < rows; number++) {
                int[] row = new int[length];
                for (int s = length - 1, rest = number; s >= 0; s--, rest /= parts.size()) {
                    row[s] = rest % parts.size();
                }
                if (endOf(row) == places - 1) {
                    walks.add(row);
                }
            }
        }
        return walks;
    }

    private int[] bestRow(int n) {
        int[] best = null;
        for (int[] row : walksHome(n)) {
            if (best == null || joyOf(row) > joyOf(best)) {
                best = row;
            }
        }
        return best;
    }

    private int[] safestRow(int n) {
        int[] best = null;
        for (int[] row : walksHome(n)) {
            if (best == null || safetyOf(row).compare(safetyOf(best)) > 0) {
                best = row;
            }
        }
        return best;
    }

    private int refusalOf(int n, int q) {
        if (n < 1 || n > 5 || q < -1 || q > 4) {
            return OUTSIDE;
        }
        return places == 0 ? STATE : 0;
    }

    int best(int n, int q) {
        if (refusalOf(n, q) != 0) {
            return refusalOf(n, q);
        }
        int[] row = bestRow(n);
        if (row == null || q >= row.length) {
            return NONE;
        }
        return q == -1 ? joyOf(row) + 100000 : row[q];
    }

    int safest(int n, int q) {
        if (refusalOf(n, q) != 0) {
            return refusalOf(n, q);
        }
        int[] row = safestRow(n);
        if (row == null || q >= row.length) {
            return NONE;
        }
        return q == -1 ? (int) safetyOf(row).times(Share.of(100000, 1)).told(0) : row[q];
    }

    int worth(int k) {
        if (!isPart(k)) {
            return UNKNOWN;
        }
        int[] now = bestRow(4);
        boolean was = closed[k];
        closed[k] = true;
        int[] then = bestRow(4);
        closed[k] = was;
        return now == null || then == null ? NONE : joyOf(now) - joyOf(then);
    }

    // ---- 4 trails, dawdling

    int reading(int k, boolean was) {
        if (!isPart(k)) {
            return UNKNOWN;
        }
        if (notes.size() == 8) {
            return FULL;
        }
        notes.add(new Note(k, was));
        return notes.size() - 1;
    }

    int back(int k) {
        if (k < 0 || k > notes.size()) {
            return OUTSIDE;
        }
        notes.subList(notes.size() - k, notes.size()).clear();
        return notes.size();
    }

    private boolean agrees(int[] row) {
        for (Note note : notes) {
            boolean mud = kindOf(note.stretch) > 0 && Arrays.stream(row).anyMatch(k -> k == note.stretch);
            if (mud != note.mud) {
                return false;
            }
        }
        return true;
    }

    int trails(int n, int t, int q) {
        if (t < 0 || t > 200) {
            return OUTSIDE;
        }
        if (refusalOf(n, q) != 0) {
            return refusalOf(n, q);
        }
        List<int[]> rows = walksHome(n);
        rows.removeIf(row -> minutesOf(row) > t || !agrees(row));
        if (q == -1) {
            return rows.size();
        }
        return rows.isEmpty() || q >= rows.get(0).length ? NONE : rows.get(0)[q];
    }

    /** How likely one comes from a place to another by just n stretches. */
    private Share chance(int from, int to, int n) {
        if (n == 0) {
            return Share.of(from == to ? 1 : 0, 1);
        }
        List<Integer> next = new ArrayList<>();
        for (int k = 0; k < parts.size(); k++) {
            Part p = parts.get(k);
            if (!closed[k] && (p.a == from || p.b == from)) {
                next.add(p.a + p.b - from);
            }
        }
        if (next.isEmpty()) {
            next.add(from);
        }
        Share all = Share.of(0, 1);
        for (int place : next) {
            all = all.plus(chance(place, to, n - 1).times(Share.of(1, next.size())));
        }
        return all;
    }

    long dawdle(int n, int place, int which) {
        if (!isPlace(place) || n < 0 || n > 5 || which < 0 || which > 1) {
            return LOST;
        }
        return chance(0, place, n).told(which);
    }

    // ---- 5 sheets, parts

    /** Does what the machine does, and tells by which of its exceptions it failed. */
    private void asMachine(Runnable deed) {
        try {
            deed.run();
        } catch (NullPointerException e) {
            fault = 1;
        } catch (ClassCastException | ArrayStoreException e) {
            fault = 2;
        } catch (IndexOutOfBoundsException e) {
            fault = 3;
        } catch (NegativeArraySizeException e) {
            fault = 4;
        }
        if (fault != 0) {
            throw new Answered(-10 - fault);
        }
    }

    private static int read(Object row, int lane, int i) {
        return lane == 0 ? ((byte[]) row)[i] : lane == 1 ? ((short[]) row)[i] : ((int[]) row)[i];
    }

    private static int lengthOf(Object row, int lane) {
        return lane == 0 ? ((byte[]) row).length : lane == 1 ? ((short[]) row).length : ((int[]) row).length;
    }

    private int[] cellsOf(int sheet, int lane, int i, int n) {
        int[][] taken = new int[1][];
        asMachine(() -> {
            int length = lengthOf(sheets[sheet], lane);
            taken[0] = new int[Math.min(n, 100)];
            if (i < 0 || i > length || (long) i + n > length) {
                throw new IndexOutOfBoundsException();
            }
            for (int k = 0; k < n; k++) {
                taken[0][k] = read(sheets[sheet], lane, i + k);
            }
        });
        return taken[0];
    }

    int sheet(int k, int lane, int n) {
        fault = 0;
        if (k < 0 || k > 3) {
            return UNKNOWN;
        }
        if (lane < 0 || lane > 2 || n > 60) {
            return OUTSIDE;
        }
        try {
            asMachine(() -> sheets[k] = lane == 0 ? new byte[n] : lane == 1 ? new short[n] : new int[n]);
        } catch (Answered a) {
            return a.answer;
        }
        return 1;
    }

    int lose(int k) {
        if (k < 0 || k > 3) {
            return UNKNOWN;
        }
        boolean had = sheets[k] != null;
        sheets[k] = null;
        return had ? 1 : 0;
    }

    int put(int k, int i, int v) {
        fault = 0;
        if (k < 0 || k > 3) {
            return UNKNOWN;
        }
        try {
            asMachine(() -> {
                if (sheets[k] instanceof byte[] bytes) {
                    bytes[i] = (byte) v;
                } else if (sheets[k] instanceof short[] shorts) {
                    shorts[i] = (short) v;
                } else {
                    ((int[]) sheets[k])[i] = v;
                }
            });
        } catch (Answered a) {
            return a.answer;
        }
        return 1;
    }

    long cell(int k, int i, int lane) {
        fault = 0;
        if (k < 0 || k > 3 || lane < 0 || lane > 2) {
            return LOST;
        }
        long[] got = new long[1];
        try {
            asMachine(() -> got[0] = read(sheets[k], lane, i));
        } catch (Answered a) {
            return LOST;
        }
        return got[0];
    }

    int copy(int k, int i, int other, int j, int n) {
        fault = 0;
        if (k < 0 || k > 3 || other < 0 || other > 3) {
            return UNKNOWN;
        }
        try {
            asMachine(() -> System.arraycopy(sheets[k], i, sheets[other], j, n));
        } catch (Answered a) {
            return a.answer;
        }
        return n;
    }

    private void mark(int... numbers) {
        for (int number : numbers) {
            trace = trace * 31 + number;
        }
    }

    int tell(int k) {
        if (!isPart(k)) {
            return UNKNOWN;
        }
        int length = parts.get(k).length;
        switch (kindOf(k)) {
            case 0:
                mark(1);
                return length;
            case 1:
                mark(2, 1);
                return length + 100;
            default:
                mark(3, 2, 1, 1);
                return length + 100 + length;
        }
    }

    int sing(int k) {
        if (!isPart(k)) {
            return UNKNOWN;
        }
        boolean steep = kindOf(k) == 2;
        mark(steep ? 5 : 4);
        return steep ? 40 : k;
    }

    int as(int k, int kind) {
        fault = 0;
        if (!isPart(k)) {
            return UNKNOWN;
        }
        if (kind < 0 || kind > 2) {
            return OUTSIDE;
        }
        fault = kind > kindOf(k) ? 2 : 0;
        return fault == 0 ? 1 : -12;
    }

    int trace() {
        return trace;
    }

    int fault() {
        return fault;
    }

    int many(int what) {
        if (what < 0 || what > 4) {
            return OUTSIDE;
        }
        return new int[] {places, parts.size(), due, law, notes.size()}[what];
    }
}
