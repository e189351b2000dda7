import java.util.Arrays;

/** What the tests of the document's sentences share: answers by their names, and how rows and shares are asked. */
abstract class Sentences {
    static final int MIN = Integer.MIN_VALUE, MAX = Integer.MAX_VALUE;
    static final int UNKNOWN = -1, OUTSIDE = -2, STATE = -3, FULL = -4, NONE = -9;
    static final int NULL = -11, CAST = -12, INDEX = -13, SIZE = -14;
    static final long LOST = Long.MIN_VALUE;
    static final Check c = new Check();

    /** All of a walk's row that best, safest or trails can tell, and NONE behind its end. */
    interface Told {
        int at(int q);
    }

    static void dueOfRow(String call, Told told, int... row) {
        for (int q = 0; q < 5; q++) {
            c.due(call + ", stretch " + q, told.at(q), q < row.length ? row[q] : NONE);
        }
    }

    static void dueOfBest(HomeByFour x, int n, int joy, int... row) {
        c.due("best(" + n + ", -1)", x.best(n, -1), 100000 + joy);
        dueOfRow("best(" + n + ")", q -> x.best(n, q), row);
    }

    static void dueOfNoBest(HomeByFour x, int n) {
        c.due("best(" + n + ", -1)", x.best(n, -1), NONE);
        dueOfRow("best(" + n + ")", q -> x.best(n, q));
    }

    static void dueOfSafest(HomeByFour x, int n, int parts, int... row) {
        c.due("safest(" + n + ", -1)", x.safest(n, -1), parts);
        dueOfRow("safest(" + n + ")", q -> x.safest(n, q), row);
    }

    static void dueOfTrails(HomeByFour x, int n, int t, int many, int... row) {
        c.due("trails(" + n + ", " + t + ", -1)", x.trails(n, t, -1), many);
        dueOfRow("trails(" + n + ", " + t + ")", q -> x.trails(n, t, q), row);
    }

    static void dueOfDawdle(HomeByFour x, int n, int place, long upper, long lower) {
        c.due("dawdle(" + n + ", " + place + ", 0)", x.dawdle(n, place, 0), upper);
        c.due("dawdle(" + n + ", " + place + ", 1)", x.dawdle(n, place, 1), lower);
    }

    /** Of a walk that is written on sheet 3 for it. */
    static int walked(HomeByFour x, int what, int... row) {
        Check.write(x, 3, 2, row);
        return x.walk(3, 2, 0, row.length, what);
    }

    static void dueOfSafe(HomeByFour x, long upper, long lower, int... row) {
        Check.write(x, 3, 2, row);
        c.due("safe, upper, of " + row.length, x.safe(3, 2, 0, row.length, 0), upper);
        c.due("safe, lower, of " + row.length, x.safe(3, 2, 0, row.length, 1), lower);
    }

    /** Ways one behind another from the school to the last of so many places. */
    static String chain(int places) {
        StringBuilder text = new StringBuilder("n").append(places);
        for (int p = 0; p + 1 < places; p++) {
            text.append(";s").append(p).append(p + 1).append("100");
        }
        return text.toString();
    }

    /** What net answers to a text, on an object of its own. */
    static int netOf(String text) {
        return Check.netOf(new HomeByFour(), text);
    }

    static int[] times(int n, int k) {
        int[] row = new int[n];
        Arrays.fill(row, k);
        return row;
    }
}
