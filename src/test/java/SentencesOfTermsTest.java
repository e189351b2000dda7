import java.util.ArrayList;
import java.util.List;
import java.util.function.Supplier;
import java.util.function.ToLongFunction;

/** The sentences ahead of the numbered terms: how long an object is used, refusals, faults, shares. */
public final class SentencesOfTermsTest extends Sentences {
    private static final List<State.Failing> FAILING = new ArrayList<>();

    public static void main(String[] args) {
        failingCallsOfNet();
        failingCallsOfWalks();
        failingCallsOfSheets();
        c.run(
            () -> manyCalls(),
            () -> constants(),
            () -> unknownPlaces(),
            () -> unknownStretches(),
            () -> unknownSheets(),
            () -> outsideStateFull(),
            () -> refusalsInOrder(),
            () -> refusalsChangeNothing(),
            () -> refusalsAndFault(),
            () -> numbersOfFaults(),
            () -> indexOfNone(),
            () -> faultsInOrder(),
            () -> faultsAnswer(),
            () -> faultsChangeNothing(),
            () -> faultTellsIt(),
            () -> none(),
            () -> shares(),
            () -> sharesOfNothing());
        c.end();
    }

    private static void manyCalls() {
        c.sentence("An object is used for at most 512 calls after it has been made; what later calls answer is free.");
        HomeByFour x = new HomeByFour();
        String text = "n2;s01119;m01229;p01339;s01449;m01559;p01669;s01779;m01889";
        int used = 2 + text.length();
        c.due("net of eight", Check.netOf(x, text), 8);
        for (; used < 507; used++) {
            c.due("net again", x.net(0, 0, 0, text.length()), 8);
        }
        c.due("call 508, best", x.best(5, -1), 100000 + 4 + 5 + 6 + 7 + 8);
        c.due("call 509, safest", x.safest(5, -1), 10000);
        c.due("call 510, trails", x.trails(5, 200, -1), 8 + 512 + 32768);
        c.due("call 511, dawdle", x.dawdle(5, 1, 0), 1);
        c.due("call 512, tell", x.tell(7), 108);
        for (int later = 0; later < 1000; later++) {
            x.net(0, 0, 0, text.length());
        }
        c.dueTrue("later calls end, too", true);
    }

    private static void constants() {
        c.sentence("UNKNOWN = -1, OUTSIDE = -2, STATE = -3, FULL = -4, NONE = -9;");
        c.due("UNKNOWN", HomeByFour.UNKNOWN, -1);
        c.due("OUTSIDE", HomeByFour.OUTSIDE, -2);
        c.due("STATE", HomeByFour.STATE, -3);
        c.due("FULL", HomeByFour.FULL, -4);
        c.due("NONE", HomeByFour.NONE, -9);
        c.sentence("public static final long LOST = Long.MIN_VALUE;");
        c.due("LOST", HomeByFour.LOST, -9223372036854775808L);
    }

    // ---- calls that fail, each for all that can be wrong behind what it answers

    private static void add(String call, Supplier<HomeByFour> made, ToLongFunction<HomeByFour> deed, long want,
            int fault) {
        FAILING.add(new State.Failing(call, made, deed, want, fault));
    }

    private static void onFull(String call, ToLongFunction<HomeByFour> deed, long want, int fault) {
        add(call, State::full, deed, want, fault);
    }

    private static void onBare(String call, ToLongFunction<HomeByFour> deed, long want, int fault) {
        add(call + ", no net", State::bare, deed, want, fault);
    }

    private static void failingCallsOfNet() {
        final int kept = State.KEPT;
        onFull("net(4, 3, -1, -1)", x -> x.net(4, 3, -1, -1), UNKNOWN, 0);
        onFull("net(-1, 3, -1, -1)", x -> x.net(-1, 3, -1, -1), UNKNOWN, 0);
        onFull("net(0, 3, -1, -1)", x -> x.net(0, 3, -1, -1), OUTSIDE, 0);
        onFull("net(3, -1, -1, -1)", x -> x.net(3, -1, -1, -1), OUTSIDE, 0);
        onFull("net(0, 1, -1, -1)", x -> x.net(0, 1, -1, -1), CAST, 2);
        onFull("net(3, 1, -1, -1)", x -> x.net(3, 1, -1, -1), NULL, 1);
        onFull("net(0, 0, -1, -1)", x -> x.net(0, 0, -1, -1), SIZE, 4);
        onFull("net(0, 0, 4, -1)", x -> x.net(0, 0, 4, -1), SIZE, 4);
        onFull("net(0, 0, -1, 1)", x -> x.net(0, 0, -1, 1), INDEX, 3);
        onFull("net(0, 0, 0, 4)", x -> x.net(0, 0, 0, 4), INDEX, 3);
        onFull("net(0, 0, 0, 3)", x -> x.net(0, 0, 0, 3), -100, 0);
        onFull("ofStretch(5, 8)", x -> x.ofStretch(5, 8), UNKNOWN, kept);
        onFull("ofStretch(4, 8)", x -> x.ofStretch(4, 8), OUTSIDE, kept);
        onBare("due(100)", x -> x.due(100), OUTSIDE, kept);
        onBare("due(99)", x -> x.due(99), STATE, kept);
        onFull("due(-1)", x -> x.due(-1), OUTSIDE, kept);
        onBare("law(3)", x -> x.law(3), OUTSIDE, kept);
        onBare("law(2)", x -> x.law(2), STATE, kept);
        onFull("law(-1)", x -> x.law(-1), OUTSIDE, kept);
        onBare("friend(0)", x -> x.friend(0), UNKNOWN, kept);
        onBare("friend(NONE)", x -> x.friend(NONE), STATE, kept);
        onFull("friend(4)", x -> x.friend(4), UNKNOWN, kept);
        onFull("close(5)", x -> x.close(5, true), UNKNOWN, kept);
        onFull("close(-1)", x -> x.close(-1, false), UNKNOWN, kept);
    }

    private static void failingCallsOfWalks() {
        final int kept = State.KEPT;
        onBare("walk(4, 3, -1, -1, 4)", x -> x.walk(4, 3, -1, -1, 4), UNKNOWN, 0);
        onBare("walk(0, 3, -1, -1, 0)", x -> x.walk(0, 3, -1, -1, 0), OUTSIDE, 0);
        onBare("walk(0, 1, -1, -1, 4)", x -> x.walk(0, 1, -1, -1, 4), OUTSIDE, 0);
        onBare("walk(0, 1, -1, -1, 0)", x -> x.walk(0, 1, -1, -1, 0), STATE, 0);
        onBare("walk(3, 1, -1, -1, 0)", x -> x.walk(3, 1, -1, -1, 0), STATE, 0);
        onFull("walk(0, 1, -1, -1, 0)", x -> x.walk(0, 1, -1, -1, 0), CAST, 2);
        onFull("walk(3, 1, -1, -1, 0)", x -> x.walk(3, 1, -1, -1, 0), NULL, 1);
        onFull("walk(0, 0, -1, -1, 0)", x -> x.walk(0, 0, -1, -1, 0), SIZE, 4);
        onFull("walk(2, 2, 0, 14, 0)", x -> x.walk(2, 2, 0, 14, 0), INDEX, 3);
        onFull("walk(2, 2, 0, 13, 0)", x -> x.walk(2, 2, 0, 13, 0), OUTSIDE, 0);
        onFull("walk(1, 1, 0, 2, 0)", x -> x.walk(1, 1, 0, 2, 0), UNKNOWN, 0);
        onFull("walk(1, 1, 0, 1, 0)", x -> x.walk(1, 1, 0, 1, 0), -100, 0);
        onBare("safe(4, 3, -1, -1, 2)", x -> x.safe(4, 3, -1, -1, 2), LOST, 0);
        onBare("safe(0, 3, -1, -1, 0)", x -> x.safe(0, 3, -1, -1, 0), LOST, 0);
        onBare("safe(0, 1, -1, -1, 2)", x -> x.safe(0, 1, -1, -1, 2), LOST, 0);
        onBare("safe(0, 1, -1, -1, 0)", x -> x.safe(0, 1, -1, -1, 0), LOST, 0);
        onFull("safe(0, 1, -1, -1, 2)", x -> x.safe(0, 1, -1, -1, 2), LOST, 0);
        onFull("safe(0, 1, -1, -1, 0)", x -> x.safe(0, 1, -1, -1, 0), LOST, 2);
        onFull("safe(3, 1, -1, -1, 0)", x -> x.safe(3, 1, -1, -1, 0), LOST, 1);
        onFull("safe(0, 0, -1, -1, 0)", x -> x.safe(0, 0, -1, -1, 0), LOST, 4);
        onFull("safe(2, 2, 0, 14, 0)", x -> x.safe(2, 2, 0, 14, 0), LOST, 3);
        onFull("safe(2, 2, 0, 13, 0)", x -> x.safe(2, 2, 0, 13, 0), LOST, 0);
        onFull("safe(1, 1, 0, 2, 0)", x -> x.safe(1, 1, 0, 2, 0), LOST, 0);
        onFull("safe(1, 1, 0, 1, 0)", x -> x.safe(1, 1, 0, 1, 0), LOST, 0);
        onFull("quickest(4)", x -> x.quickest(4), UNKNOWN, kept);
        onFull("via(4)", x -> x.via(4), UNKNOWN, kept);
        onBare("best(0, 0)", x -> x.best(0, 0), OUTSIDE, kept);
        onBare("best(1, 5)", x -> x.best(1, 5), OUTSIDE, kept);
        onBare("best(1, 0)", x -> x.best(1, 0), STATE, kept);
        onBare("safest(6, 0)", x -> x.safest(6, 0), OUTSIDE, kept);
        onBare("safest(1, -2)", x -> x.safest(1, -2), OUTSIDE, kept);
        onBare("safest(1, 0)", x -> x.safest(1, 0), STATE, kept);
        onFull("worth(5)", x -> x.worth(5), UNKNOWN, kept);
        add("reading(5), eight are there", State::read, x -> x.reading(5, true), UNKNOWN, kept);
        add("reading(0), eight are there", State::read, x -> x.reading(0, true), FULL, kept);
        onFull("back(3)", x -> x.back(3), OUTSIDE, kept);
        onFull("back(-1)", x -> x.back(-1), OUTSIDE, kept);
        onBare("trails(0, 0, 0)", x -> x.trails(0, 0, 0), OUTSIDE, kept);
        onBare("trails(1, 201, 0)", x -> x.trails(1, 201, 0), OUTSIDE, kept);
        onBare("trails(1, 0, 5)", x -> x.trails(1, 0, 5), OUTSIDE, kept);
        onBare("trails(1, 0, 0)", x -> x.trails(1, 0, 0), STATE, kept);
        onFull("dawdle(0, 4, 0)", x -> x.dawdle(0, 4, 0), LOST, kept);
        onFull("dawdle(6, 0, 0)", x -> x.dawdle(6, 0, 0), LOST, kept);
        onFull("dawdle(0, 0, 2)", x -> x.dawdle(0, 0, 2), LOST, kept);
    }

    private static void failingCallsOfSheets() {
        final int kept = State.KEPT;
        onFull("sheet(4, 3, -1)", x -> x.sheet(4, 3, -1), UNKNOWN, 0);
        onFull("sheet(0, 3, -1)", x -> x.sheet(0, 3, -1), OUTSIDE, 0);
        onFull("sheet(0, 0, 61)", x -> x.sheet(0, 0, 61), OUTSIDE, 0);
        onFull("sheet(0, 0, -1)", x -> x.sheet(0, 0, -1), SIZE, 4);
        onFull("lose(4)", x -> x.lose(4), UNKNOWN, kept);
        onFull("put(4, -1, 5)", x -> x.put(4, -1, 5), UNKNOWN, 0);
        onFull("put(3, -1, 5)", x -> x.put(3, -1, 5), NULL, 1);
        onFull("put(0, -1, 5)", x -> x.put(0, -1, 5), INDEX, 3);
        onFull("cell(4, -1, 3)", x -> x.cell(4, -1, 3), LOST, 0);
        onFull("cell(3, -1, 3)", x -> x.cell(3, -1, 3), LOST, 0);
        onFull("cell(0, -1, 1)", x -> x.cell(0, -1, 1), LOST, 2);
        onFull("cell(3, -1, 1)", x -> x.cell(3, -1, 1), LOST, 1);
        onFull("cell(0, -1, 0)", x -> x.cell(0, -1, 0), LOST, 3);
        onFull("copy(3, -1, 4, -1, -1)", x -> x.copy(3, -1, 4, -1, -1), UNKNOWN, 0);
        onFull("copy(4, -1, 3, -1, -1)", x -> x.copy(4, -1, 3, -1, -1), UNKNOWN, 0);
        onFull("copy(3, -1, 0, -1, -1)", x -> x.copy(3, -1, 0, -1, -1), NULL, 1);
        onFull("copy(0, -1, 3, -1, -1)", x -> x.copy(0, -1, 3, -1, -1), NULL, 1);
        onFull("copy(0, -1, 1, -1, -1)", x -> x.copy(0, -1, 1, -1, -1), CAST, 2);
        onFull("copy(0, 0, 0, 2, 2)", x -> x.copy(0, 0, 0, 2, 2), INDEX, 3);
        onFull("copy(0, 2, 0, 0, 2)", x -> x.copy(0, 2, 0, 0, 2), INDEX, 3);
        onFull("copy(0, 0, 0, 0, -1)", x -> x.copy(0, 0, 0, 0, -1), INDEX, 3);
        onFull("tell(5)", x -> x.tell(5), UNKNOWN, kept);
        onFull("sing(5)", x -> x.sing(5), UNKNOWN, kept);
        onFull("as(5, 3)", x -> x.as(5, 3), UNKNOWN, 0);
        onFull("as(0, 3)", x -> x.as(0, 3), OUTSIDE, 0);
        onFull("as(0, 2)", x -> x.as(0, 2), CAST, 2);
        onFull("many(5)", x -> x.many(5), OUTSIDE, kept);
        onBare("many(-1)", x -> x.many(-1), OUTSIDE, kept);
    }

    // ---- REFUSALS

    private static final String UNKNOWN_WORDS = "UNKNOWN (there is no such PLACE, STRETCH, SHEET, place of a row)";

    private static void unknownPlaces() {
        c.sentence("places", UNKNOWN_WORDS);
        for (int place : new int[] {-1, -8, -10, 4, 7, 8, MAX, MIN}) {
            HomeByFour x = Check.withNet(Check.FOUR);
            c.due("friend " + place, x.friend(place), UNKNOWN);
            c.due("quickest " + place, x.quickest(place), UNKNOWN);
            c.due("via " + place, x.via(place), UNKNOWN);
            c.due("dawdle " + place, x.dawdle(1, place, 0), LOST);
        }
        HomeByFour x = Check.withNet(Check.FOUR);
        c.due("the last place, friend", x.friend(3), NONE);
        c.due("the last place, quickest", x.quickest(3), 9);
        c.due("the last place, via", x.via(3), 9);
        c.due("the last place, dawdle", x.dawdle(1, 3, 1), 2);
    }

    private static void unknownStretches() {
        c.sentence("stretches", UNKNOWN_WORDS);
        for (int k : new int[] {-1, -9, 5, 8, 9, 32, MAX, MIN}) {
            HomeByFour x = Check.withNet(Check.FOUR);
            c.due("ofStretch " + k, x.ofStretch(k, 0), UNKNOWN);
            c.due("close " + k, x.close(k, true), UNKNOWN);
            c.due("worth " + k, x.worth(k), UNKNOWN);
            c.due("reading " + k, x.reading(k, true), UNKNOWN);
            c.due("tell " + k, x.tell(k), UNKNOWN);
            c.due("sing " + k, x.sing(k), UNKNOWN);
            c.due("as " + k, x.as(k, 0), UNKNOWN);
            c.due("walk " + k, walked(x, 0, k), UNKNOWN);
        }
        HomeByFour x = Check.withNet(Check.FOUR);
        c.due("the last one, ofStretch", x.ofStretch(4, 0), 1);
        c.due("the last one, worth", x.worth(4), 1);
        c.due("the last one, reading", x.reading(4, true), 0);
        c.due("the last one, tell", x.tell(4), 104);
        c.due("the last one, sing", x.sing(4), 4);
        c.due("the last one, as", x.as(4, 1), 1);
        c.due("the last one, walk", walked(x, 0, 1, 4), 3);
        c.due("the last one, close", x.close(4, true), 1);
    }

    private static void unknownSheets() {
        c.sentence("sheets", UNKNOWN_WORDS);
        for (int k : new int[] {-1, 4, 5, 60, MAX, MIN}) {
            HomeByFour x = Check.withNet(Check.FOUR);
            c.due("net " + k, x.net(k, 0, 0, 0), UNKNOWN);
            c.due("walk " + k, x.walk(k, 0, 0, 0, 0), UNKNOWN);
            c.due("safe " + k, x.safe(k, 0, 0, 0, 0), LOST);
            c.due("sheet " + k, x.sheet(k, 0, 0), UNKNOWN);
            c.due("lose " + k, x.lose(k), UNKNOWN);
            c.due("put " + k, x.put(k, 0, 0), UNKNOWN);
            c.due("cell " + k, x.cell(k, 0, 0), LOST);
            c.due("copy from " + k, x.copy(k, 0, 0, 0, 0), UNKNOWN);
            c.due("copy to " + k, x.copy(0, 0, k, 0, 0), UNKNOWN);
        }
        HomeByFour x = Check.withNet(Check.FOUR);
        c.due("the last one, sheet", x.sheet(3, 1, 1), 1);
        c.due("the last one, put", x.put(3, 0, 4), 1);
        c.due("the last one, cell", x.cell(3, 0, 1), 4);
        c.due("the last one, copy", x.copy(3, 0, 3, 1, 0), 0);
        c.due("the last one, walk", x.walk(3, 1, 0, 0, 0), 0);
        c.due("the last one, net", x.net(3, 1, 0, 0), -100);
        c.due("the last one, lose", x.lose(3), 1);
    }

    private static void outsideStateFull() {
        c.sentence("OUTSIDE (another number is not as told), STATE (as told), FULL");
        HomeByFour x = new HomeByFour();
        c.due("STATE, due", x.due(45), -3);
        c.due("STATE, law", x.law(0), -3);
        c.due("STATE, friend", x.friend(-9), -3);
        c.due("STATE, best", x.best(5, 4), -3);
        c.due("STATE, safest", x.safest(5, 4), -3);
        c.due("STATE, trails", x.trails(5, 200, 4), -3);
        x.sheet(0, 0, 0);
        c.due("STATE, walk", x.walk(0, 0, 0, 0, 0), -3);
        Check.netOf(x, Check.FOUR);
        c.due("OUTSIDE, ofStretch", x.ofStretch(0, 8), -2);
        c.due("OUTSIDE, due", x.due(100), -2);
        c.due("OUTSIDE, law", x.law(3), -2);
        c.due("OUTSIDE, walk", x.walk(0, 0, 0, 0, 4), -2);
        c.due("OUTSIDE, best", x.best(6, 0), -2);
        c.due("OUTSIDE, safest", x.safest(0, 0), -2);
        c.due("OUTSIDE, back", x.back(1), -2);
        c.due("OUTSIDE, trails", x.trails(1, 201, 0), -2);
        c.due("OUTSIDE, net", x.net(0, 3, 0, 0), -2);
        c.due("OUTSIDE, sheet", x.sheet(0, 0, 61), -2);
        c.due("OUTSIDE, as", x.as(0, 3), -2);
        c.due("OUTSIDE, many", x.many(5), -2);
        for (int r = 0; r < 8; r++) {
            x.reading(0, false);
        }
        c.due("FULL, reading", x.reading(0, false), -4);
        x.back(1);
        c.due("no longer FULL", x.reading(0, false), 7);
        c.due("no longer STATE", x.due(1), 45);
    }

    private static void refusalsInOrder() {
        c.sentence("of several the first in the order in which a call's line tells them.");
        for (State.Failing one : FAILING) {
            if (!one.isFault()) {
                c.due(one.call(), one.deed().applyAsLong(one.made().get()), one.want());
            }
        }
    }

    private static void dueStill(State.Failing one) {
        HomeByFour x = one.made().get();
        one.deed().applyAsLong(x);
        String now = State.seen(x);
        String was = State.seen(one.made().get());
        c.dueTrue(one.call() + " changes " + was + " to " + now, now.equals(was));
    }

    private static void refusalsChangeNothing() {
        c.sentence("They change nothing (but fault(), of a call that names FAULTS).");
        for (State.Failing one : FAILING) {
            if (!one.isFault()) {
                dueStill(one);
            }
        }
    }

    /** Asks fault() behind a call, ahead of which there was one fault, and then another. */
    private static void dueOfFault(State.Failing one) {
        for (int before : new int[] {1, 4}) {
            HomeByFour x = one.made().get();
            State.fail(x, before);
            one.deed().applyAsLong(x);
            c.due("fault() behind " + one.call(), x.fault(), one.namesFaults() ? one.fault() : before);
        }
    }

    private static void refusalsAndFault() {
        c.sentence("(but fault(), of a call that names FAULTS)");
        for (State.Failing one : FAILING) {
            if (!one.isFault()) {
                dueOfFault(one);
            }
        }
    }

    // ---- FAULTS

    private static void numbersOfFaults() {
        HomeByFour x = State.full();
        c.sentence("1 NULL (there is nothing)");
        c.due("put to nothing", x.put(3, 0, 0), -11);
        c.due("fault", x.fault(), 1);
        c.sentence("2 CAST (it is of another LANE, kind)");
        c.due("net of another lane", x.net(1, 0, 0, 1), -12);
        c.due("fault", x.fault(), 2);
        c.due("put in order", x.put(0, 0, 1), 1);
        c.due("as another kind", x.as(0, 1), -12);
        c.due("fault", x.fault(), 2);
        c.sentence("3 INDEX (of cells");
        c.due("put beyond", x.put(0, 3, 0), -13);
        c.due("fault", x.fault(), 3);
        c.sentence("4 SIZE (a length below 0)");
        c.due("sheet of -1", x.sheet(0, 0, -1), -14);
        c.due("fault", x.fault(), 4);
        c.due("sheet of none", x.sheet(0, 0, 0), 1);
        c.due("fault", x.fault(), 0);
    }

    private static void indexOfNone() {
        c.sentence("of cells from i on also where i is not 0 .. how many there are, if none of them is taken, too");
        HomeByFour x = Check.withNet(Check.FOUR);
        Check.write(x, 1, 1, 7, 8, 9);
        for (int i : new int[] {-1, 4, 60, 61, MIN, MAX}) {
            c.due("net from " + i, x.net(1, 1, i, 0), INDEX);
            c.due("walk from " + i, x.walk(1, 1, i, 0, 0), INDEX);
            c.due("copy from " + i, x.copy(1, i, 1, 0, 0), INDEX);
            c.due("copy to " + i, x.copy(1, 0, 1, i, 0), INDEX);
            x.lose(3);
            c.due("safe from " + i, x.safe(1, 1, i, 0, 0), LOST);
            c.due("fault", x.fault(), 3);
        }
        for (int i = 0; i <= 3; i++) {
            c.due("net from " + i, x.net(1, 1, i, 0), -100);
            c.due("walk from " + i, x.walk(1, 1, i, 0, 0), 0);
            c.due("safe from " + i, x.safe(1, 1, i, 0, 0), 1);
            c.due("copy from " + i, x.copy(1, i, 1, 0, 0), 0);
            c.due("copy to " + i, x.copy(1, 0, 1, i, 0), 0);
        }
        x.sheet(2, 0, 0);
        c.due("of no cells, from 0", x.net(2, 0, 0, 0), -100);
        c.due("of no cells, from 1", x.net(2, 0, 1, 0), INDEX);
        c.due("of no cells, walk from 0", x.walk(2, 0, 0, 0, 3), 100000);
        c.due("of no cells, walk from 1", x.walk(2, 0, 1, 0, 3), INDEX);
        c.due("of no cells, copy", x.copy(2, 0, 2, 0, 0), 0);
        c.due("of no cells, copy from 1", x.copy(2, 1, 2, 0, 0), INDEX);
    }

    private static void faultsInOrder() {
        c.sentence("Of a call the first that is come to, in the order told");
        for (State.Failing one : FAILING) {
            if (one.isFault()) {
                HomeByFour x = one.made().get();
                one.deed().applyAsLong(x);
                c.due("fault() behind " + one.call(), x.fault(), one.fault());
            }
        }
    }

    private static void faultsAnswer() {
        c.sentence("it answers -10 less it (LOST, where a long is answered, as for refusals)");
        for (State.Failing one : FAILING) {
            if (one.isFault()) {
                long want = one.want() == LOST ? LOST : -10 - one.fault();
                c.due(one.call(), one.deed().applyAsLong(one.made().get()), want);
            }
        }
        HomeByFour x = State.bare();
        c.due("safe, refused", x.safe(0, 0, 0, 1, 0), Long.MIN_VALUE);
        c.due("cell, refused", x.cell(4, 0, 0), Long.MIN_VALUE);
        c.due("dawdle, refused", x.dawdle(0, 0, 0), Long.MIN_VALUE);
    }

    private static void faultsChangeNothing() {
        c.sentence("and changes nothing; fault() tells it");
        for (State.Failing one : FAILING) {
            if (one.isFault()) {
                dueStill(one);
            }
        }
    }

    private static void faultTellsIt() {
        c.sentence("fault() tells it.");
        for (State.Failing one : FAILING) {
            if (one.isFault()) {
                dueOfFault(one);
            }
        }
    }

    // ---- NONE, shares

    private static void none() {
        c.sentence("NONE is -9.");
        HomeByFour x = Check.withNet("n3;s01100");
        c.due("friend", x.friend(-9), -9);
        c.due("quickest", x.quickest(2), -9);
        c.due("via", x.via(1), -9);
        c.due("best", x.best(5, -1), -9);
        c.due("best, a stretch", x.best(5, 0), -9);
        c.due("safest", x.safest(5, -1), -9);
        c.due("worth", x.worth(0), -9);
        c.due("trails, a stretch", x.trails(5, 200, 0), -9);
    }

    private static void shares() {
        c.sentence("Shares are told as upper and lower number (above 0) in least terms.");
        HomeByFour x = Check.withNet("n3;s01104;s02108;s12105;s12100");
        dueOfSafe(x, 3, 5, 0);
        dueOfSafe(x, 9, 25, 0, 0);
        dueOfSafe(x, 1, 5, 1);
        dueOfSafe(x, 1, 10, 1, 2);
        dueOfSafe(x, 3, 10, 0, 2);
        dueOfSafe(x, 3, 5, 0, 3);
        dueOfSafe(x, 1, 1);
        dueOfDawdle(x, 1, 1, 1, 2);
        dueOfDawdle(x, 2, 0, 1, 3);
        dueOfDawdle(x, 2, 1, 1, 3);
        x = Check.withNet("n2;s01100;s01100");
        dueOfDawdle(x, 1, 1, 1, 1);
        dueOfDawdle(x, 2, 0, 1, 1);
    }

    private static void sharesOfNothing() {
        c.sentence("lower number (above 0)");
        HomeByFour x = Check.withNet(Check.FOUR);
        dueOfDawdle(x, 0, 1, 0, 1);
        dueOfDawdle(x, 1, 0, 0, 1);
        dueOfDawdle(x, 1, 2, 0, 1);
        x = Check.withNet("n2;s01100");
        for (int n = 0; n <= 5; n++) {
            dueOfDawdle(x, n, (n + 1) % 2, 0, 1);
            dueOfDawdle(x, n, n % 2, 1, 1);
        }
    }
}
