import java.util.function.ToLongFunction;

/** The sentences of sheets and of telling: terms 5, and promises 19 to 29. */
public final class SentencesOfSheetsTest extends Sentences {
    private static final String KINDS = "n2;s01500;m01500;p01500";

    public static void main(String[] args) {
        c.run(
            () -> nothingAtFirst(),
            () -> rowsOfCells(),
            () -> cutToLane(),
            () -> traceWraps(),
            () -> tellingOfStretches(),
            () -> singing(),
            () -> sheet(),
            () -> sheetRefusals(),
            () -> lose(),
            () -> put(),
            () -> putRefusals(),
            () -> cell(),
            () -> cellLost(),
            () -> copy(),
            () -> copyAsTheyWere(),
            () -> copyRefusals(),
            () -> tell(),
            () -> sing(),
            () -> as(),
            () -> trace(),
            () -> faultOfLatest(),
            () -> faultOfNone(),
            () -> faultAtFirst(),
            () -> many());
        c.end();
    }

    private static void dueOfCells(HomeByFour x, int k, int lane, int... want) {
        for (int i = 0; i < want.length; i++) {
            c.due("cell " + i + " of sheet " + k, x.cell(k, i, lane), want[i]);
        }
        c.due("no cell behind them", x.cell(k, want.length, lane), LOST);
    }

    // ---- terms 5

    private static void nothingAtFirst() {
        c.sentence("SHEETS 0 .. 3 have nothing (at first)");
        HomeByFour x = new HomeByFour();
        for (int k = 0; k < 4; k++) {
            c.due("put to " + k, x.put(k, 0, 1), NULL);
            c.due("cell of " + k, x.cell(k, 0, 0), LOST);
            c.due("its fault", x.fault(), 1);
            c.due("net of " + k, x.net(k, 0, 0, 0), NULL);
            c.due("copy of " + k, x.copy(k, 0, k, 0, 0), NULL);
            c.due("lose " + k, x.lose(k), 0);
        }
        c.due("put to -1", x.put(-1, 0, 1), UNKNOWN);
        c.due("put to 4", x.put(4, 0, 1), UNKNOWN);
        for (int k = 0; k < 4; k++) {
            c.due("sheet " + k, x.sheet(k, 2, 1), 1);
            c.due("put to " + k, x.put(k, 0, k + 5), 1);
        }
        for (int k = 0; k < 4; k++) {
            c.due("each its own", x.cell(k, 0, 2), k + 5);
        }
    }

    private static void rowsOfCells() {
        c.sentence("or a row of 0 .. 60 numbers (0 at first) of a LANE");
        for (int lane = 0; lane < 3; lane++) {
            for (int n : new int[] {0, 1, 2, 59, 60}) {
                HomeByFour x = new HomeByFour();
                c.due("a row of " + n, x.sheet(1, lane, n), 1);
                dueOfCells(x, 1, lane, new int[n]);
                for (int i = 0; i < n; i++) {
                    x.put(1, i, i + 1);
                }
                for (int i = 0; i < n; i++) {
                    c.due("cell " + i, x.cell(1, i, lane), i + 1);
                }
                c.due("anew", x.sheet(1, lane, n), 1);
                dueOfCells(x, 1, lane, new int[n]);
            }
            c.due("a row of 61", new HomeByFour().sheet(1, lane, 61), OUTSIDE);
            c.due("a row of -1", new HomeByFour().sheet(1, lane, -1), SIZE);
        }
    }

    private static void cutToLane() {
        c.sentence("LANE: 0 bytes, 1 shorts, 2 ints; what comes to a cell of it is cut to its LANE.");
        int[] values = {0, 1, -1, 127, 128, 129, 255, 256, -127, -128, -129, -256, -257, 32767, 32768, 32769, 65535,
            65536, -32768, -32769, -65536, -65537, 8388608, MAX, MIN, MAX - 1, MIN + 1};
        for (int lane = 0; lane < 3; lane++) {
            HomeByFour x = new HomeByFour();
            x.sheet(0, lane, values.length);
            for (int i = 0; i < values.length; i++) {
                c.due("put " + values[i], x.put(0, i, values[i]), 1);
                long cut = lane == 0 ? (byte) values[i] : lane == 1 ? (short) values[i] : values[i];
                c.due(values[i] + " in lane " + lane, x.cell(0, i, lane), cut);
            }
        }
    }

    private static int left(int trace, int... numbers) {
        int all = trace;
        for (int number : numbers) {
            all = 31 * all + number;
        }
        return all;
    }

    private static void traceWraps() {
        c.sentence("TRACE (an int that wraps, 0 at first, becomes 31 times it and the number) as they begin");
        HomeByFour x = Check.withNet(KINDS);
        c.due("0 at first", x.trace(), 0);
        long exact = 0;
        boolean wrapped = false;
        for (int k = 0; k < 20; k++) {
            x.sing(2);
            exact = 31 * (long) (int) exact + 5;
            wrapped |= exact != (int) exact;
            c.due("trace behind " + (k + 1), x.trace(), (int) exact);
        }
        c.dueTrue("it has wrapped", wrapped);
        x.tell(7);
        x.sing(7);
        c.due("a refusal leaves nothing", x.trace(), (int) exact);
    }

    private static void tellingOfStretches() {
        c.sentence("STRETCH (1): how LONG it is. MUDDY (2): what STRETCH's gives, and 100.");
        HomeByFour x = Check.withNet("n2;s01199;s01999;m01199;m01999;p01199;p01999");
        int[] long1And9 = {1, 9, 101, 109};
        int[][] marks = {{1}, {1}, {2, 1}, {2, 1}};
        int trace = 0;
        for (int k = 0; k < 4; k++) {
            c.due("tell " + k, x.tell(k), long1And9[k]);
            trace = left(trace, marks[k]);
            c.due("trace", x.trace(), trace);
        }
        c.sentence("STEEP (3): what MUDDY's gives, and what STRETCH's gives (MUDDY's left out).");
        int[] steep = {1 + 100 + 1, 9 + 100 + 9};
        for (int k = 0; k < 2; k++) {
            c.due("tell a steep one", x.tell(4 + k), steep[k]);
            trace = left(trace, 3, 2, 1, 1);
            c.due("trace", x.trace(), trace);
        }
    }

    private static void singing() {
        c.sentence("SUNG of by a lent body (4): its number; STEEP ones have their own (5): 40.");
        HomeByFour x = Check.withNet("n2;s01199;m01199;p01199;p01199;s01199;m01199;s01199;m01199");
        int[] want = {0, 1, 40, 40, 4, 5, 6, 7};
        int trace = 0;
        for (int k = 0; k < 8; k++) {
            c.due("sing " + k, x.sing(k), want[k]);
            trace = left(trace, want[k] == 40 ? 5 : 4);
            c.due("trace", x.trace(), trace);
        }
    }

    // ---- promises 19 to 23

    private static void sheet() {
        c.sentence("A SHEET gets a new row: 1.");
        HomeByFour x = new HomeByFour();
        Check.write(x, 2, 2, 7, 8, 9);
        c.due("a shorter row", x.sheet(2, 2, 2), 1);
        dueOfCells(x, 2, 2, 0, 0);
        c.due("of another lane", x.sheet(2, 0, 4), 1);
        dueOfCells(x, 2, 0, 0, 0, 0, 0);
        c.due("no longer of the former", x.cell(2, 0, 2), LOST);
        c.due("its fault", x.fault(), 2);
        c.due("of none", x.sheet(2, 1, 0), 1);
        dueOfCells(x, 2, 1);
        c.due("that is not nothing", x.lose(2), 1);
        c.due("the others have nothing", x.lose(1), 0);
    }

    private static void sheetRefusals() {
        c.sentence("UNKNOWN; OUTSIDE: lane, n above 60; SIZE.");
        HomeByFour x = new HomeByFour();
        Check.write(x, 0, 1, 7, 8);
        for (int k : new int[] {-1, 4, MIN, MAX}) {
            c.due("sheet " + k, x.sheet(k, 3, 61), UNKNOWN);
            c.due("sheet " + k + ", SIZE", x.sheet(k, 0, -1), UNKNOWN);
        }
        for (int lane : new int[] {-1, 3, MIN, MAX}) {
            c.due("lane " + lane, x.sheet(0, lane, 1), OUTSIDE);
            c.due("lane " + lane + ", SIZE", x.sheet(0, lane, -1), OUTSIDE);
        }
        c.due("n 61", x.sheet(0, 1, 61), OUTSIDE);
        c.due("n the most", x.sheet(0, 1, MAX), OUTSIDE);
        c.due("fault", x.fault(), 0);
        c.due("n -1", x.sheet(0, 1, -1), SIZE);
        c.due("n the least", x.sheet(0, 1, MIN), SIZE);
        c.due("fault", x.fault(), 4);
        dueOfCells(x, 0, 1, 7, 8);
        c.due("n 60", x.sheet(0, 1, 60), 1);
        c.due("n 0", x.sheet(0, 1, 0), 1);
    }

    private static void lose() {
        c.sentence("A SHEET has nothing: 1; 0: it had nothing. UNKNOWN.");
        HomeByFour x = new HomeByFour();
        Check.write(x, 0, 0, 7);
        x.sheet(1, 1, 0);
        c.due("it had a row", x.lose(0), 1);
        c.due("it has nothing", x.put(0, 0, 1), NULL);
        c.due("it had nothing", x.lose(0), 0);
        c.due("a row of none is something", x.lose(1), 1);
        c.due("and then nothing", x.lose(1), 0);
        c.due("-1", x.lose(-1), UNKNOWN);
        c.due("4", x.lose(4), UNKNOWN);
        c.due("the least", x.lose(MIN), UNKNOWN);
        c.due("a row again", x.sheet(0, 0, 1), 1);
        dueOfCells(x, 0, 0, 0);
        x = Check.withNet(Check.FOUR);
        c.due("the sheet of the net's text", x.lose(0), 1);
        c.due("the net stays", x.many(1), 5);
        c.due("its stretches, too", x.ofStretch(4, 3), 4);
    }

    private static void put() {
        c.sentence("Cell i of a SHEET becomes v: 1.");
        HomeByFour x = new HomeByFour();
        Check.write(x, 1, 2, 1, 2, 3);
        Check.write(x, 2, 2, 4, 5, 6);
        c.due("the first", x.put(1, 0, MAX), 1);
        c.due("the last", x.put(1, 2, MIN), 1);
        dueOfCells(x, 1, 2, MAX, 2, MIN);
        dueOfCells(x, 2, 2, 4, 5, 6);
        c.due("again", x.put(1, 0, 0), 1);
        dueOfCells(x, 1, 2, 0, 2, MIN);
        x.sheet(3, 0, 60);
        c.due("the sixtieth", x.put(3, 59, 3), 1);
        c.due("it is there", x.cell(3, 59, 0), 3);
    }

    private static void putRefusals() {
        c.sentence("Cell i of a SHEET becomes v: 1. UNKNOWN; NULL; INDEX.");
        HomeByFour x = new HomeByFour();
        Check.write(x, 1, 2, 1, 2, 3);
        x.sheet(2, 2, 0);
        for (int k : new int[] {-1, 4, MIN, MAX}) {
            c.due("sheet " + k, x.put(k, -1, 0), UNKNOWN);
            c.due("fault", x.fault(), 0);
        }
        c.due("nothing", x.put(0, -1, 0), NULL);
        c.due("fault", x.fault(), 1);
        for (int i : new int[] {-1, 3, 59, 60, 61, MIN, MAX}) {
            c.due("cell " + i, x.put(1, i, 9), INDEX);
            c.due("fault", x.fault(), 3);
        }
        c.due("of a row of none", x.put(2, 0, 9), INDEX);
        dueOfCells(x, 1, 2, 1, 2, 3);
    }

    private static void cell() {
        c.sentence("Cell i of what a SHEET has, taken as a row of a LANE.");
        for (int lane = 0; lane < 3; lane++) {
            HomeByFour x = new HomeByFour();
            Check.write(x, 3, lane, -1, 0, 100);
            dueOfCells(x, 3, lane, -1, 0, 100);
            c.due("it stays", x.cell(3, 0, lane), -1);
            c.due("fault", x.fault(), 0);
        }
    }

    private static void dueOfLostCell(HomeByFour x, int k, int i, int lane, int fault) {
        c.due("cell(" + k + ", " + i + ", " + lane + ")", x.cell(k, i, lane), LOST);
        c.due("its fault", x.fault(), fault);
    }

    private static void cellLost() {
        c.sentence("LOST: UNKNOWN, OUTSIDE: lane; FAULTS CAST (nothing is no CAST), NULL, INDEX.");
        HomeByFour x = State.bare();
        for (int v : new int[] {-1, 4, MIN, MAX}) {
            State.fail(x, 4);
            dueOfLostCell(x, v, 0, 0, 0);
            State.fail(x, 4);
            dueOfLostCell(x, 0, 0, v == 4 ? 3 : v, 0);
            dueOfLostCell(x, 0, v, 0, 3);
            dueOfLostCell(x, 0, v, 1, 2);
            dueOfLostCell(x, 3, v, 1, 1);
        }
        for (int lane = 0; lane < 3; lane++) {
            for (int k = 0; k < 3; k++) {
                if (k != lane) {
                    dueOfLostCell(x, k, 0, lane, 2);
                }
            }
            dueOfLostCell(x, 3, 0, lane, 1);
        }
        dueOfLostCell(x, 0, 3, 0, 3);
        c.due("the last", x.cell(0, 2, 0), 9);
    }

    private static void copy() {
        c.sentence("n cells of a SHEET from i on go to another one (perhaps the same) from j on, as they were: n.");
        for (int lane = 0; lane < 3; lane++) {
            HomeByFour x = new HomeByFour();
            Check.write(x, 0, lane, 1, 2, 3, 4);
            Check.write(x, 3, lane, 9, 9, 9);
            c.due("two", x.copy(0, 2, 3, 0, 2), 2);
            dueOfCells(x, 3, lane, 3, 4, 9);
            dueOfCells(x, 0, lane, 1, 2, 3, 4);
            c.due("all", x.copy(3, 0, 0, 1, 3), 3);
            dueOfCells(x, 0, lane, 1, 3, 4, 9);
            c.due("none", x.copy(0, 0, 3, 0, 0), 0);
            c.due("none from the end to the end", x.copy(0, 4, 3, 3, 0), 0);
            c.due("fault", x.fault(), 0);
            dueOfCells(x, 3, lane, 3, 4, 9);
        }
    }

    private static void copyAsTheyWere() {
        c.sentence("(perhaps the same) from j on, as they were");
        HomeByFour x = new HomeByFour();
        Check.write(x, 1, 2, 1, 2, 3, 4, 5);
        c.due("upwards", x.copy(1, 0, 1, 1, 4), 4);
        dueOfCells(x, 1, 2, 1, 1, 2, 3, 4);
        c.due("downwards", x.copy(1, 1, 1, 0, 4), 4);
        dueOfCells(x, 1, 2, 1, 2, 3, 4, 4);
        c.due("to where they are", x.copy(1, 0, 1, 0, 5), 5);
        dueOfCells(x, 1, 2, 1, 2, 3, 4, 4);
        Check.write(x, 1, 2, times(60, 0));
        x.put(1, 0, MAX);
        c.due("upwards in sixty", x.copy(1, 0, 1, 1, 59), 59);
        c.due("the second", x.cell(1, 1, 2), MAX);
        c.due("the third", x.cell(1, 2, 2), 0);
        c.due("the last", x.cell(1, 59, 2), 0);
    }

    private static void copyRefusals() {
        c.sentence("UNKNOWN; FAULTS NULL (the first, the other), CAST (unlike LANES), INDEX: i, j, n below 0 or"
            + " beyond.");
        HomeByFour x = new HomeByFour();
        Check.write(x, 0, 1, 1, 2, 3);
        Check.write(x, 1, 1, 8, 9);
        Check.write(x, 2, 2, 5);
        for (int k : new int[] {-1, 4, MIN, MAX}) {
            c.due("from sheet " + k, x.copy(k, -1, 3, -1, -1), UNKNOWN);
            c.due("to sheet " + k, x.copy(3, -1, k, -1, -1), UNKNOWN);
        }
        c.due("fault", x.fault(), 0);
        c.due("the first is nothing", x.copy(3, -1, 2, -1, -1), NULL);
        c.due("the other is nothing", x.copy(0, -1, 3, -1, -1), NULL);
        c.due("fault", x.fault(), 1);
        c.due("unlike lanes", x.copy(0, -1, 2, -1, -1), CAST);
        c.due("unlike lanes, none are taken", x.copy(2, 0, 0, 0, 0), CAST);
        c.due("fault", x.fault(), 2);
        int[][] beyond = {{-1, 0, 0}, {0, -1, 0}, {0, 0, -1}, {4, 0, 0}, {0, 3, 0}, {3, 0, 1}, {2, 0, 2}, {0, 2, 1},
            {0, 1, 2}, {0, 0, 3}, {MAX, 0, 1}, {0, MAX, 1}, {1, 0, MAX}, {1, 1, MAX}, {MIN, 0, 0}, {0, MIN, 0},
            {0, 0, MIN}, {MAX, MAX, MAX}, {MIN, MIN, MIN}, {3, 2, -1}, {MAX, 0, MIN}};
        for (int[] b : beyond) {
            State.fail(x, 4);
            c.due("INDEX of " + b[0] + ", " + b[1] + ", " + b[2], x.copy(0, b[0], 1, b[1], b[2]), INDEX);
            c.due("fault", x.fault(), 3);
        }
        dueOfCells(x, 1, 1, 8, 9);
        dueOfCells(x, 0, 1, 1, 2, 3);
    }

    // ---- promises 24 to 29

    private static void tell() {
        c.sentence("TELLING of a STRETCH. UNKNOWN.");
        HomeByFour x = Check.withNet(KINDS);
        int[] want = {5, 105, 110};
        for (int k = 0; k < 3; k++) {
            c.due("tell " + k, x.tell(k), want[k]);
        }
        x.friend(1);
        x.close(2, true);
        for (int k = 0; k < 3; k++) {
            c.due("tell " + k + ", shared", x.tell(k), want[k]);
        }
        int trace = x.trace();
        for (int k : new int[] {-1, 3, 9, MIN, MAX}) {
            c.due("tell " + k, x.tell(k), UNKNOWN);
            c.due("trace", x.trace(), trace);
        }
        c.due("no net", new HomeByFour().tell(0), UNKNOWN);
    }

    private static void sing() {
        c.sentence("How it is SUNG of. UNKNOWN.");
        HomeByFour x = Check.withNet(KINDS);
        int[] want = {0, 1, 40};
        for (int k = 0; k < 3; k++) {
            c.due("sing " + k, x.sing(k), want[k]);
        }
        int trace = x.trace();
        for (int k : new int[] {-1, 3, 9, MIN, MAX}) {
            c.due("sing " + k, x.sing(k), UNKNOWN);
            c.due("trace", x.trace(), trace);
        }
        c.due("no net", new HomeByFour().sing(0), UNKNOWN);
    }

    private static void as() {
        c.sentence("A STRETCH, taken as one of a kind: 1. UNKNOWN; OUTSIDE; CAST: it is none.");
        HomeByFour x = Check.withNet(KINDS);
        for (int k = 0; k < 3; k++) {
            for (int kind = 0; kind < 3; kind++) {
                c.due("as(" + k + ", " + kind + ")", x.as(k, kind), kind <= k ? 1 : CAST);
                c.due("fault", x.fault(), kind <= k ? 0 : 2);
            }
            for (int kind : new int[] {-1, 3, MIN, MAX}) {
                c.due("as(" + k + ", " + kind + ")", x.as(k, kind), OUTSIDE);
                c.due("as none, kind " + kind, x.as(3, kind), UNKNOWN);
            }
        }
        for (int k : new int[] {-1, 3, 9, MIN, MAX}) {
            c.due("as(" + k + ", 0)", x.as(k, 0), UNKNOWN);
        }
        c.due("no net", new HomeByFour().as(0, 0), UNKNOWN);
        c.due("it leaves no trace", x.trace(), 0);
    }

    private static void trace() {
        c.sentence("`int trace()`: TRACE.");
        HomeByFour x = Check.withNet(KINDS);
        c.due("0 at first", x.trace(), 0);
        x.ofStretch(2, 6);
        x.quickest(1);
        x.best(5, -1);
        x.worth(0);
        x.as(2, 2);
        x.trails(5, 200, -1);
        c.due("none but bodies leave theirs", x.trace(), 0);
        x.tell(2);
        c.due("four", x.trace(), left(0, 3, 2, 1, 1));
        c.due("asked again", x.trace(), left(0, 3, 2, 1, 1));
        x.sing(0);
        c.due("five", x.trace(), left(0, 3, 2, 1, 1, 4));
        // A text that is taken is told to make five things anew, and TRACE is none of them.
        x.net(0, 0, 0, KINDS.length());
        c.due("behind a net anew", x.trace(), left(0, 3, 2, 1, 1, 4));
    }

    private static void faultOfLatest() {
        c.sentence("The FAULT of the latest call that names one: 0: it came to none, or was refused (0 ahead of any).");
        HomeByFour x = State.full();
        c.due("net", x.net(3, 0, 0, 0), NULL);
        c.due("fault of it", x.fault(), 1);
        c.due("fault of it, again", x.fault(), 1);
        c.due("another one", x.net(1, 0, 0, 0), CAST);
        c.due("fault of that", x.fault(), 2);
        x.tell(0);
        x.lose(3);
        x.due(9);
        x.many(9);
        c.due("calls that name none leave it", x.fault(), 2);
        c.due("put comes to none", x.put(0, 0, 1), 1);
        c.due("0", x.fault(), 0);
        State.fail(x, 4);
        c.due("it was refused", x.put(4, 0, 1), UNKNOWN);
        c.due("0", x.fault(), 0);
        State.fail(x, 4);
        c.due("it was refused behind what could be a fault", x.walk(2, 2, 0, 13, 0), OUTSIDE);
        c.due("0", x.fault(), 0);
        State.fail(x, 4);
        c.due("a text that isn't taken", x.net(0, 0, 0, 3), -100);
        c.due("0", x.fault(), 0);
        State.fail(x, 4);
        c.due("a FIRST WRONG", x.walk(1, 1, 0, 1, 0), -100);
        c.due("0", x.fault(), 0);
    }

    private static void dueOfNoFault(String call, ToLongFunction<HomeByFour> deed, long want) {
        for (int before : new int[] {1, 4}) {
            HomeByFour x = Check.withNet(Check.FOUR);
            State.fail(x, before);
            c.due(call, deed.applyAsLong(x), want);
            c.due("fault() behind " + call, x.fault(), 0);
        }
    }

    private static void faultOfNone() {
        c.sentence("0: it came to none");
        dueOfNoFault("net", x -> x.net(0, 0, 0, 37), 5);
        dueOfNoFault("net, a FIRST FAULT", x -> x.net(0, 0, 0, 36), -136);
        dueOfNoFault("walk", x -> x.walk(0, 0, 37, 0, 0), 0);
        dueOfNoFault("safe", x -> x.safe(0, 0, 37, 0, 0), 1);
        dueOfNoFault("sheet", x -> x.sheet(3, 0, 0), 1);
        dueOfNoFault("put", x -> x.put(0, 0, 1), 1);
        dueOfNoFault("cell", x -> x.cell(0, 0, 0), 110);
        dueOfNoFault("copy", x -> x.copy(0, 0, 0, 0, 37), 37);
        dueOfNoFault("as", x -> x.as(2, 2), 1);
    }

    private static void faultAtFirst() {
        c.sentence("(0 ahead of any)");
        HomeByFour x = new HomeByFour();
        c.due("at first", x.fault(), 0);
        x.lose(0);
        x.tell(0);
        x.quickest(9);
        c.due("ahead of a call that names one", x.fault(), 0);
    }

    private static void many() {
        c.sentence("How many: 0 PLACES, 1 STRETCHES, 2 behind how many MINUTES one is DUE, 3 the LAW, 4 READINGS (0 all"
            + " without a NET). OUTSIDE.");
        HomeByFour x = new HomeByFour();
        for (int what = 0; what < 5; what++) {
            c.due("many(" + what + "), no net", x.many(what), 0);
        }
        for (int what : new int[] {-1, 5, MIN, MAX}) {
            c.due("many(" + what + "), no net", x.many(what), OUTSIDE);
        }
        c.due("a text that isn't taken", Check.netOf(x, "n7"), -102);
        for (int what = 0; what < 5; what++) {
            c.due("many(" + what + "), no net still", x.many(what), 0);
        }
        Check.netOf(x, "n7;s01100;s01100");
        int[] want = {7, 2, 45, 0, 0};
        for (int what = 0; what < 5; what++) {
            c.due("many(" + what + ")", x.many(what), want[what]);
        }
        x.due(0);
        x.law(2);
        x.reading(0, true);
        want = new int[] {7, 2, 0, 2, 1};
        for (int what = 0; what < 5; what++) {
            c.due("many(" + what + ")", x.many(what), want[what]);
        }
        for (int what : new int[] {-1, 5, MIN, MAX}) {
            c.due("many(" + what + ")", x.many(what), OUTSIDE);
        }
    }
}
