import java.util.function.Supplier;
import java.util.function.ToLongFunction;

/** Objects in which nothing is as at first, and all of them that can be seen: so that each change of them shows. */
final class State {
    /** Stands for the fault that there was ahead of a call that names none. */
    static final int KEPT = -1;

    /** A call that is refused or comes to a fault: what it answers, and what fault() tells behind it. */
    record Failing(String call, Supplier<HomeByFour> made, ToLongFunction<HomeByFour> deed, long want, int fault) {
        boolean isFault() {
            return fault > 0;
        }

        boolean namesFaults() {
            return fault != KEPT;
        }
    }

    private State() {
    }

    /** With a net: sheet 0 has bytes, 1 shorts, 2 ints, 3 nothing. */
    static HomeByFour full() {
        HomeByFour x = Check.withNet(Check.FOUR);
        writeSheets(x);
        x.due(7);
        x.law(2);
        x.friend(1);
        x.close(3, true);
        x.reading(1, true);
        x.reading(0, false);
        x.tell(4);
        return x;
    }

    /** Without a net. */
    static HomeByFour bare() {
        HomeByFour x = new HomeByFour();
        writeSheets(x);
        return x;
    }

    /** With as many readings as there can be. */
    static HomeByFour read() {
        HomeByFour x = full();
        for (int r = x.many(4); r < 8; r++) {
            x.reading(r % 2, r % 2 == 1);
        }
        return x;
    }

    private static void writeSheets(HomeByFour x) {
        Check.write(x, 0, 0, 1, 4, 9);
        Check.write(x, 1, 1, 3, 300, 1);
        Check.write(x, 2, 2, 0, 0, 0, 0, 0, 0, 0, 0, 0, 0, 0, 0, 70000);
    }

    /** All but fault(); the object is of no use afterwards. */
    static String seen(HomeByFour x) {
        StringBuilder all = new StringBuilder();
        all.append("trace ").append(x.trace());
        for (int what = 0; what < 5; what++) {
            all.append(", many ").append(x.many(what));
        }
        for (int k = 0; k < 9; k++) {
            for (int what = 0; what < 8; what++) {
                all.append(what == 0 ? ", stretch " : " ").append(x.ofStretch(k, what));
            }
        }
        for (int k = 0; k < 4; k++) {
            for (int lane = 0; lane < 3; lane++) {
                all.append(", sheet ").append(row(x, k, lane));
            }
        }
        for (int left = x.many(4); left > 0; left--) {
            all.append(", trails ").append(x.trails(5, 200, -1));
            x.back(1);
        }
        return all.append(", friend ").append(x.friend(HomeByFour.NONE)).toString();
    }

    private static String row(HomeByFour x, int k, int lane) {
        StringBuilder cells = new StringBuilder();
        long cell = x.cell(k, 0, lane);
        for (int i = 1; i < 16 && cell != HomeByFour.LOST; i++) {
            cells.append(cell).append(' ');
            cell = x.cell(k, i, lane);
        }
        return cells.append(x.fault()).toString();
    }

    /** Puts a fault (1 NULL or 4 SIZE) there, and changes nothing else. */
    static void fail(HomeByFour x, int fault) {
        int got = fault == 1 ? x.put(3, 0, 0) : x.sheet(3, 0, -1);
        if (got != -10 - fault || x.fault() != fault) {
            throw new IllegalStateException("no fault " + fault);
        }
    }
}
