/** Each promise of the document: ordinary inputs, its edges, and each refusal and fault in its order. */
public final class PromisesTest {
    private static final int MIN = Integer.MIN_VALUE, MAX = Integer.MAX_VALUE;
    private static final int UNKNOWN = -1, OUTSIDE = -2, STATE = -3, FULL = -4, NONE = -9;
    private static final int NULL = -11, CAST = -12, INDEX = -13, SIZE = -14;
    private static final long LOST = Long.MIN_VALUE;
    private static final Check c = new Check();

    public static void main(String[] args) {
        c.run(
            () -> newObject(),
            () -> netAnswers(),
            () -> netFirstFaults(),
            () -> netMakesAnew(),
            () -> ofStretch(),
            () -> dueAndLaw(),
            () -> friend(),
            () -> close(),
            () -> walk(),
            () -> walkRefusals(),
            () -> walkCosts(),
            () -> safe(),
            () -> quickestAndVia(),
            () -> best(),
            () -> bestOfSeveral(),
            () -> safest(),
            () -> worth(),
            () -> readingAndBack(),
            () -> trails(),
            () -> dawdle(),
            () -> sheetAndLose(),
            () -> put(),
            () -> cell(),
            () -> copy(),
            () -> tellAndSing(),
            () -> as(),
            () -> fault(),
            () -> many());
        c.end();
    }

    private static void newObject() {
        c.part("promise 1");
        HomeByFour x = new HomeByFour();
        for (int what = 0; what < 5; what++) {
            c.due("many(" + what + ")", x.many(what), 0);
        }
        for (int k = 0; k < 4; k++) {
            c.due("lose of nothing", x.lose(k), 0);
        }
        c.due("trace", x.trace(), 0);
        c.due("fault", x.fault(), 0);
        c.due("ofStretch", x.ofStretch(0, 0), UNKNOWN);
        c.due("close", x.close(0, true), UNKNOWN);
        c.due("quickest", x.quickest(0), UNKNOWN);
        c.due("via", x.via(0), UNKNOWN);
        c.due("best", x.best(1, -1), STATE);
        c.due("safest", x.safest(1, -1), STATE);
        c.due("worth", x.worth(0), UNKNOWN);
        c.due("reading", x.reading(0, true), UNKNOWN);
        c.due("back", x.back(0), 0);
        c.due("back of one", x.back(1), OUTSIDE);
        c.due("trails", x.trails(1, 0, -1), STATE);
        c.due("dawdle", x.dawdle(0, 0, 0), LOST);
        c.due("tell", x.tell(0), UNKNOWN);
        c.due("sing", x.sing(0), UNKNOWN);
        c.due("as", x.as(0, 0), UNKNOWN);
        c.due("trace, as nothing was told", x.trace(), 0);
        c.due("UNKNOWN", HomeByFour.UNKNOWN, UNKNOWN);
        c.due("OUTSIDE", HomeByFour.OUTSIDE, OUTSIDE);
        c.due("STATE", HomeByFour.STATE, STATE);
        c.due("FULL", HomeByFour.FULL, FULL);
        c.due("NONE", HomeByFour.NONE, NONE);
        c.due("LOST", HomeByFour.LOST, LOST);
    }

    private static void netAnswers() {
        c.part("promise 2");
        HomeByFour x = new HomeByFour();
        int[] text = ("xx" + Check.FOUR + "x").chars().toArray();
        for (int lane = 0; lane < 3; lane++) {
            Check.write(x, lane, lane, text);
            c.due("net from 2 on", x.net(lane, lane, 2, text.length - 3), 5);
            c.due("net beyond", x.net(lane, lane, 2, text.length - 1), INDEX);
            c.due("net with an x behind it", x.net(lane, lane, 2, text.length - 2), -137);
        }
        c.due("no sheet -1", x.net(-1, 3, 0, -1), UNKNOWN);
        c.due("no sheet 4", x.net(4, 0, 0, 0), UNKNOWN);
        c.due("lane -1 ahead of nothing", x.net(3, -1, 0, 0), OUTSIDE);
        c.due("lane 3", x.net(0, 3, 0, 0), OUTSIDE);
        c.due("CAST ahead of SIZE", x.net(0, 1, -1, -1), CAST);
        c.due("nothing is no CAST", x.net(3, 1, -1, -1), NULL);
        c.due("SIZE ahead of INDEX", x.net(0, 0, -1, -1), SIZE);
        c.due("SIZE of the least", x.net(0, 0, 0, MIN), SIZE);
        c.due("INDEX below", x.net(0, 0, -1, 1), INDEX);
        c.due("INDEX below, none taken", x.net(0, 0, -1, 0), INDEX);
        c.due("INDEX beyond, none taken", x.net(0, 0, text.length + 1, 0), INDEX);
        c.due("at the end, none taken", x.net(0, 0, text.length, 0), -100);
        c.due("INDEX at the end", x.net(0, 0, text.length, 1), INDEX);
        c.due("INDEX that would wrap", x.net(0, 0, MAX, MAX), INDEX);
        c.due("INDEX that would wrap below", x.net(0, 0, MIN, 1), INDEX);
        c.due("INDEX of the most", x.net(0, 0, 1, MAX), INDEX);
        c.due("the net stays", x.many(1), 5);
        String eight = "n2" + ";s01110".repeat(8);
        c.due("eight stretches", Check.netOf(x, eight), 8);
        c.due("a ninth that is cut", Check.netOf(x, eight + ";s"), -160);
        c.due("seven places", Check.netOf(x, "n7;p65900;m06199"), 2);
    }

    private static void netFirstFaults() {
        c.part("promise 2, FIRST FAULT");
        String[] texts = {"", "N", "n", "n1", "n8", "n2", "n2:", "n2;", "n2;n", "n2;s", "n2;s2", "n2;s0", "n2;s00",
            "n2;s02", "n2;s01", "n2;s010", "n2;s01/", "n2;s01:", "n2;s011", "n2;s011:", "n2;s0110", "n2;s01100;",
            "n2;s01100s", "n2;s01100;m11", "n2;m10999;p10000", "n3;s20/", "n7;s07", "n2;s0110a", "n2s01100"};
        int[] faults = {0, 0, 1, 1, 1, 2, 2, 3, 3, 4, 4, 5, 5, 5, 6, 6, 6, 6, 7, 7, 8, 10, 9, 12, 13, 6, 5, 8, 2};
        HomeByFour x = Check.withNet("n2;s01100");
        for (int k = 0; k < texts.length; k++) {
            c.due("net of " + texts[k], Check.netOf(x, texts[k]), -100 - faults[k]);
            c.due("fault", x.fault(), 0);
        }
        c.due("the net stays", x.many(1), 1);
        Check.write(x, 2, 2, 110, 50, 59, 115, 48, 49 + 256, 49, 48, 48);
        c.due("an int that ends as a digit does", x.net(2, 2, 0, 9), -105);
        Check.write(x, 0, 0, 110 + 256, 50 - 256, 59, 115, 48, 49 + 256, 49, 48, 48);
        c.due("bytes are cut to digits", x.net(0, 0, 0, 9), 1);
    }

    private static void netMakesAnew() {
        c.part("promise 2, all anew");
        HomeByFour x = Check.withNet(Check.FOUR);
        x.due(7);
        x.law(2);
        x.friend(3);
        x.close(0, true);
        x.reading(1, true);
        x.tell(0);
        c.due("a text that is not taken", Check.netOf(x, "n2;s0110"), -108);
        c.due("due stays", x.many(2), 7);
        c.due("closed stays", x.ofStretch(0, 7), 1);
        c.due("reading stays", x.many(4), 1);
        c.due("places stay", x.many(0), 4);
        c.due("a text that is taken", Check.netOf(x, "n3;s02914;m01190"), 2);
        c.due("places", x.many(0), 3);
        c.due("stretches", x.many(1), 2);
        c.due("due", x.many(2), 45);
        c.due("law", x.many(3), 0);
        c.due("readings", x.many(4), 0);
        c.due("closed", x.ofStretch(0, 7), 0);
        c.due("minutes alone", x.ofStretch(0, 6), 9);
        c.due("a stretch of the former net", x.ofStretch(2, 0), UNKNOWN);
        c.due("friend", x.friend(0), NONE);
        c.due("trace is kept", x.trace(), 1);
        c.due("the sheet is kept", x.cell(0, 0, 0), 110);
    }

    private static void ofStretch() {
        c.part("promise 3");
        HomeByFour x = Check.withNet(Check.FOUR);
        int[][] rows = {{0, 0, 3, 9, 1, 4, 9, 0}, {1, 0, 1, 1, 9, 0, 2, 0}, {2, 1, 2, 2, 5, 0, 6, 0},
            {0, 2, 3, 3, 1, 3, 3, 0}, {1, 1, 3, 4, 2, 1, 5, 0}};
        for (int k = 0; k < rows.length; k++) {
            for (int what = 0; what < 8; what++) {
                c.due("ofStretch(" + k + ", " + what + ")", x.ofStretch(k, what), rows[k][what]);
            }
            c.due("what 8", x.ofStretch(k, 8), OUTSIDE);
            c.due("what -1", x.ofStretch(k, -1), OUTSIDE);
        }
        c.due("stretch -1", x.ofStretch(-1, -1), UNKNOWN);
        c.due("stretch 5", x.ofStretch(5, 0), UNKNOWN);
        c.due("the most", x.ofStretch(MAX, 0), UNKNOWN);
        c.due("the least", x.ofStretch(MIN, 0), UNKNOWN);
        x.friend(3);
        int[] shared = {10, 3, 7, 4, 6};
        for (int k = 0; k < 5; k++) {
            c.due("minutes with a friend", x.ofStretch(k, 6), shared[k]);
            c.due("danger by the text", x.ofStretch(k, 5), rows[k][5]);
        }
    }

    private static void dueAndLaw() {
        c.part("promise 4");
        HomeByFour x = new HomeByFour();
        c.due("OUTSIDE ahead of STATE", x.due(100), OUTSIDE);
        c.due("no net", x.due(99), STATE);
        Check.netOf(x, Check.FOUR);
        c.due("first", x.due(0), 45);
        c.due("then", x.due(99), 0);
        c.due("below", x.due(-1), OUTSIDE);
        c.due("above", x.due(100), OUTSIDE);
        c.due("as it was", x.due(50), 99);
        c.part("promise 5");
        x = new HomeByFour();
        c.due("OUTSIDE ahead of STATE", x.law(3), OUTSIDE);
        c.due("no net", x.law(2), STATE);
        Check.netOf(x, Check.FOUR);
        c.due("first", x.law(2), 0);
        c.due("then", x.law(1), 2);
        c.due("below", x.law(-1), OUTSIDE);
        c.due("above", x.law(3), OUTSIDE);
        c.due("as it was", x.law(0), 1);
    }

    private static void friend() {
        c.part("promise 6");
        HomeByFour x = new HomeByFour();
        c.due("no net, NONE", x.friend(NONE), STATE);
        c.due("no net, a place", x.friend(0), UNKNOWN);
        Check.netOf(x, Check.FOUR);
        c.due("first", x.friend(0), NONE);
        c.due("nothing is shared as far as the school", x.ofStretch(1, 6), 2);
        c.due("then", x.friend(1), 0);
        c.due("both places", x.ofStretch(1, 6), 3);
        c.due("but one place", x.ofStretch(2, 6), 6);
        c.due("unknown -1", x.friend(-1), UNKNOWN);
        c.due("unknown -8", x.friend(-8), UNKNOWN);
        c.due("unknown 4", x.friend(4), UNKNOWN);
        c.due("home", x.friend(3), 1);
        c.due("none", x.friend(NONE), 3);
        c.due("none again", x.friend(NONE), NONE);
        c.due("alone", x.ofStretch(1, 6), 2);
    }

    private static void close() {
        c.part("promise 7");
        HomeByFour x = Check.withNet(Check.FOUR);
        c.due("open it was", x.close(2, false), 0);
        c.due("close", x.close(2, true), 1);
        c.due("closed it was", x.close(2, true), 0);
        c.due("closed", x.ofStretch(2, 7), 1);
        c.due("another one", x.ofStretch(1, 7), 0);
        c.due("open", x.close(2, false), 1);
        c.due("opened", x.ofStretch(2, 7), 0);
        c.due("unknown -1", x.close(-1, true), UNKNOWN);
        c.due("unknown 5", x.close(5, false), UNKNOWN);
    }

    private static void dueOfWalk(HomeByFour x, int n, int... want) {
        for (int what = 0; what < 4; what++) {
            c.due("walk of " + n + ", " + what, x.walk(1, 0, 0, n, what), want.length == 1 ? want[0] : want[what]);
        }
    }

    private static void walk() {
        c.part("promise 8");
        HomeByFour x = Check.withNet(Check.FOUR);
        Check.write(x, 1, 0, 1, 2, 3, 3, 2, 1, 0, 1);
        dueOfWalk(x, 0, 0, 0, 0, 100000);
        dueOfWalk(x, 1, 1, 2, 9, 100009);
        dueOfWalk(x, 3, 3, 11, 15, 100015);
        dueOfWalk(x, 6, 0, 22, 15, 100015);
        dueOfWalk(x, 7, 3, 31, 16, 100016);
        dueOfWalk(x, 8, -107);
        c.due("from the middle", x.walk(1, 0, 2, 1, 0), -100);
        x.close(3, true);
        dueOfWalk(x, 2, 2, 8, 14, 100014);
        dueOfWalk(x, 7, -102);
        x.close(3, false);
        x.friend(2);
        dueOfWalk(x, 3, 3, 13, 15, 100015);
        dueOfWalk(x, 6, 0, 26, 15, 100015);
        Check.write(x, 1, 2, 0, 0, 0, 0, 0, 0, 0, 0, 0, 0, 0, 0, 0);
        c.due("twelve", x.walk(1, 2, 0, 12, 1), 108);
        c.due("thirteen", x.walk(1, 2, 0, 13, 1), OUTSIDE);
        c.due("thirteen, beyond", x.walk(1, 2, 1, 13, 1), INDEX);
    }

    private static void walkRefusals() {
        c.part("promise 8, refusals");
        HomeByFour x = new HomeByFour();
        Check.write(x, 1, 1, 0, 9, -1, 5, 3);
        c.due("no sheet", x.walk(4, 3, 0, 1, 4), UNKNOWN);
        c.due("no sheet -1", x.walk(-1, 0, 0, 1, 0), UNKNOWN);
        c.due("lane ahead of no net", x.walk(1, 3, 0, 1, 0), OUTSIDE);
        c.due("lane -1", x.walk(1, -1, 0, 1, 0), OUTSIDE);
        c.due("what ahead of no net", x.walk(1, 1, 0, 1, 4), OUTSIDE);
        c.due("what -1", x.walk(1, 1, 0, 1, -1), OUTSIDE);
        c.due("no net ahead of CAST", x.walk(1, 0, 0, 1, 0), STATE);
        c.due("no net ahead of NULL", x.walk(3, 0, 0, 1, 0), STATE);
        c.due("and no fault", x.fault(), 0);
        Check.netOf(x, Check.FOUR);
        c.due("CAST ahead of SIZE", x.walk(1, 2, -1, -1, 0), CAST);
        c.due("NULL ahead of SIZE", x.walk(3, 2, -1, -1, 0), NULL);
        c.due("SIZE ahead of INDEX", x.walk(1, 1, -1, -1, 0), SIZE);
        c.due("INDEX ahead of n above 12", x.walk(1, 1, 0, 13, 0), INDEX);
        c.due("INDEX below", x.walk(1, 1, -1, 0, 0), INDEX);
        c.due("INDEX wraps", x.walk(1, 1, MAX, MAX, 0), INDEX);
        c.due("at the end, none", x.walk(1, 1, 5, 0, 3), 100000);
        c.due("beyond, none", x.walk(1, 1, 6, 0, 3), INDEX);
        c.due("stretch 9", x.walk(1, 1, 0, 2, 0), UNKNOWN);
        c.due("stretch -1", x.walk(1, 1, 2, 1, 0), UNKNOWN);
        c.due("stretch 5", x.walk(1, 1, 3, 1, 0), UNKNOWN);
        c.due("fault of a refusal", x.fault(), 0);
        Check.write(x, 1, 1, 2, 9);
        c.due("an unknown stretch ahead of a FIRST WRONG", x.walk(1, 1, 0, 2, 0), UNKNOWN);
        c.due("a FIRST WRONG", x.walk(1, 1, 0, 1, 0), -100);
        Check.write(x, 1, 1, new int[13]);
        x.put(1, 12, 9);
        c.due("n above 12 ahead of an unknown stretch", x.walk(1, 1, 0, 13, 0), OUTSIDE);
    }

    private static void walkCosts() {
        c.part("promise 8, COST");
        // Walks of 1 to 4 stretches of 5 minutes each: 0, 5, 10 and 15 late; one of 6 and 7 late, too.
        HomeByFour x = Check.withNet("n2;s01520;s01630");
        Check.write(x, 1, 0, 0, 0, 0, 0);
        x.due(5);
        int[][] joys = {{2, -3, -8, -13}, {2, 2, -13, -28}, {2, -23, -98, -223}};
        for (int law = 0; law < 3; law++) {
            x.law(law);
            for (int n = 1; n < 5; n++) {
                c.due("joy by law " + law + " of " + n, x.walk(1, 0, 0, n, 3), 100000 + joys[law][n - 1]);
            }
        }
        x.law(1);
        Check.write(x, 1, 0, 0, 1, 1);
        c.due("6 late", x.walk(1, 0, 0, 2, 3), 100000 + 5 - 3);
        x.due(17);
        c.due("0 late", x.walk(1, 0, 0, 3, 3), 100005);
        x.due(0);
        c.due("17 late", x.walk(1, 0, 0, 3, 3), 100000 + 5 - 36);
        x.law(2);
        c.due("17 late, squared", x.walk(1, 0, 0, 3, 3), 100000 + 5 - 289);
        x.due(99);
        c.due("early is no gain", x.walk(1, 0, 0, 3, 3), 100005);
    }

    private static void dueOfSafe(HomeByFour x, int i, int n, long upper, long lower) {
        c.due("safe, upper, of " + n, x.safe(1, 1, i, n, 0), upper);
        c.due("safe, lower, of " + n, x.safe(1, 1, i, n, 1), lower);
    }

    private static void safe() {
        c.part("promise 9");
        HomeByFour x = new HomeByFour();
        Check.write(x, 1, 1, 0, 0, 0, 0, 0, 0, 0, 0, 0, 0, 0, 0, 9);
        c.due("no net", x.safe(1, 1, 0, 1, 0), LOST);
        Check.netOf(x, "n3;s02109;s02108;s02105;s21107;s01104;s12100");
        dueOfSafe(x, 0, 0, 1, 1);
        dueOfSafe(x, 0, 1, 1, 10);
        dueOfSafe(x, 0, 12, 1, 1000000000000L);
        c.due("which 2", x.safe(1, 1, 0, 1, 2), LOST);
        c.due("which -1", x.safe(1, 1, 0, 1, -1), LOST);
        c.due("fault of a refusal", x.fault(), 0);
        c.due("CAST", x.safe(1, 0, 0, 1, 0), LOST);
        c.due("fault CAST", x.fault(), 2);
        c.due("NULL", x.safe(2, 0, 0, 1, 0), LOST);
        c.due("fault NULL", x.fault(), 1);
        c.due("SIZE", x.safe(1, 1, 0, -1, 0), LOST);
        c.due("fault SIZE", x.fault(), 4);
        c.due("INDEX", x.safe(1, 1, 13, 1, 1), LOST);
        c.due("fault INDEX", x.fault(), 3);
        c.due("n 13", x.safe(1, 1, 0, 13, 1), LOST);
        c.due("fault of n 13", x.fault(), 0);
        c.due("unknown stretch", x.safe(1, 1, 12, 1, 1), LOST);
        c.due("no sheet", x.safe(4, 1, 0, 1, 0), LOST);
        c.due("lane", x.safe(1, 3, 0, 1, 0), LOST);
        Check.write(x, 1, 1, 2, 1, 3, 4, 4, 5, 3);
        dueOfSafe(x, 0, 2, 1, 10);
        dueOfSafe(x, 0, 1, 1, 2);
        dueOfSafe(x, 4, 2, 3, 5);
        dueOfSafe(x, 4, 3, 9, 50);
        c.due("a FIRST WRONG", x.safe(1, 1, 0, 3, 0), LOST);
        c.due("fault of a FIRST WRONG", x.fault(), 0);
        x.friend(1);
        dueOfSafe(x, 4, 1, 1, 1);
        dueOfSafe(x, 4, 3, 3, 10);
        x.friend(2);
        dueOfSafe(x, 4, 3, 1, 1);
    }

    private static void quickestAndVia() {
        c.part("promises 10, 11");
        HomeByFour x = Check.withNet(Check.FOUR);
        int[] least = {0, 2, 8, 7};
        int[] through = {7, 7, 11, 7};
        for (int place = 0; place < 4; place++) {
            c.due("quickest to " + place, x.quickest(place), least[place]);
            c.due("via " + place, x.via(place), through[place]);
        }
        c.due("quickest -1", x.quickest(-1), UNKNOWN);
        c.due("quickest 4", x.quickest(4), UNKNOWN);
        c.due("via -1", x.via(-1), UNKNOWN);
        c.due("via 4", x.via(4), UNKNOWN);
        c.due("via NONE", x.via(NONE), UNKNOWN);
        x.friend(1);
        c.due("quickest with a friend", x.quickest(3), 8);
        x.close(4, true);
        c.due("quickest, one is closed", x.quickest(3), 9);
        x.close(3, true);
        c.due("via there and back", x.via(2), 9 + 9 + 9);
        x.close(0, true);
        c.due("no way home", x.quickest(3), NONE);
        c.due("no way on", x.via(2), NONE);
        c.due("a way there", x.quickest(2), 9);
        x.close(1, true);
        c.due("school", x.quickest(0), 0);
        c.due("no way there", x.quickest(1), NONE);
        x = Check.withNet("n7;s65100;s54100;s43100;s32100;s21100;s10100");
        c.due("a long row", x.quickest(6), 6);
        c.due("via the first of it", x.via(1), 6);
        x = Check.withNet("n3;s01100");
        c.due("home is apart", x.via(1), NONE);
        c.due("via home", x.via(2), NONE);
    }

    private static void dueOfBest(HomeByFour x, int n, int joy, int... row) {
        c.due("best(" + n + ", -1)", x.best(n, -1), joy == NONE ? NONE : 100000 + joy);
        for (int q = 0; q < 5; q++) {
            c.due("best(" + n + ", " + q + ")", x.best(n, q), q < row.length ? row[q] : NONE);
        }
    }

    private static void best() {
        c.part("promise 12");
        HomeByFour x = Check.withNet(Check.FOUR);
        dueOfBest(x, 1, 1, 0);
        dueOfBest(x, 2, 11, 1, 4);
        dueOfBest(x, 3, 15, 1, 2, 3);
        dueOfBest(x, 4, 16, 1, 2, 2, 4);
        dueOfBest(x, 5, 17, 1, 2, 3, 4, 4);
        c.due("n 0", x.best(0, 0), OUTSIDE);
        c.due("n 6", x.best(6, 0), OUTSIDE);
        c.due("q -2", x.best(1, -2), OUTSIDE);
        c.due("q 5", x.best(5, 5), OUTSIDE);
        c.due("OUTSIDE ahead of STATE", new HomeByFour().best(0, 0), OUTSIDE);
        c.due("OUTSIDE ahead of STATE, q", new HomeByFour().best(1, 5), OUTSIDE);
        c.due("no net", new HomeByFour().best(5, 4), STATE);
        x.close(2, true);
        dueOfBest(x, 5, 12, 0, 0, 1, 4);
        x.close(2, false);
        x.due(0);
        dueOfBest(x, 5, 4, 1, 4);
        x.law(2);
        dueOfBest(x, 5, -38, 1, 4);
        x.close(1, true);
        x.close(0, true);
        dueOfBest(x, 5, NONE);
        x = Check.withNet("n3;s01100;s12100");
        dueOfBest(x, 1, NONE);
        dueOfBest(x, 2, 0, 0, 1);
    }

    private static void bestOfSeveral() {
        c.part("promise 12, of several");
        // Home is passed and come to again for the other sight.
        HomeByFour x = Check.withNet("n3;s02150;s21130;s12130");
        dueOfBest(x, 1, 5, 0);
        dueOfBest(x, 3, 11, 0, 1, 2);
        dueOfBest(x, 5, 11, 0, 1, 2);
        x = Check.withNet("n2;s01110;s10110;s01110");
        dueOfBest(x, 1, 1, 0);
        dueOfBest(x, 2, 1, 0);
        dueOfBest(x, 3, 3, 0, 1, 2);
        dueOfBest(x, 5, 3, 0, 1, 2);
        x.close(1, true);
        dueOfBest(x, 3, 2, 0, 0, 2);
        x = Check.withNet("n3;s01100;s12100;s02100");
        dueOfBest(x, 5, 0, 2);
    }

    private static void dueOfSafest(HomeByFour x, int n, int parts, int... row) {
        c.due("safest(" + n + ", -1)", x.safest(n, -1), parts);
        for (int q = 0; q < 5; q++) {
            c.due("safest(" + n + ", " + q + ")", x.safest(n, q), q < row.length ? row[q] : NONE);
        }
    }

    private static void safest() {
        c.part("promise 13");
        HomeByFour x = Check.withNet(Check.FOUR);
        dueOfSafest(x, 1, 60000, 0);
        dueOfSafest(x, 2, 90000, 1, 4);
        dueOfSafest(x, 5, 90000, 1, 4);
        x.close(4, true);
        dueOfSafest(x, 5, 70000, 1, 2, 3);
        x.friend(3);
        dueOfSafest(x, 5, 100000, 0);
        x.close(0, true);
        dueOfSafest(x, 2, NONE);
        c.due("n 0", x.safest(0, 0), OUTSIDE);
        c.due("n 6", x.safest(6, 0), OUTSIDE);
        c.due("q -2", x.safest(1, -2), OUTSIDE);
        c.due("q 5", x.safest(5, 5), OUTSIDE);
        c.due("OUTSIDE ahead of STATE", new HomeByFour().safest(6, 0), OUTSIDE);
        c.due("no net", new HomeByFour().safest(1, -1), STATE);
        x = Check.withNet("n6;s01109;s12109;s23109;s34109;s45109");
        dueOfSafest(x, 4, NONE);
        dueOfSafest(x, 5, 1, 0, 1, 2, 3, 4);
        x = Check.withNet("n3;s02104;s01102;s12103;s12102;s20104");
        dueOfSafest(x, 1, 60000, 0);
        dueOfSafest(x, 5, 64000, 1, 3);
        x = Check.withNet("n3;s12102;s01100;s02102;s02102");
        dueOfSafest(x, 5, 80000, 2);
    }

    private static void worth() {
        c.part("promise 14");
        HomeByFour x = Check.withNet(Check.FOUR);
        int[] worths = {0, 7, 4, 0, 1};
        for (int k = 0; k < 5; k++) {
            c.due("worth(" + k + ")", x.worth(k), worths[k]);
            c.due("it is open as it was", x.ofStretch(k, 7), 0);
        }
        c.due("unknown -1", x.worth(-1), UNKNOWN);
        c.due("unknown 5", x.worth(5), UNKNOWN);
        x.close(0, true);
        c.due("closed already", x.worth(0), 0);
        c.due("it is closed as it was", x.ofStretch(0, 7), 1);
        c.due("without it one can't", x.worth(1), NONE);
        x.close(1, true);
        c.due("one can't now", x.worth(4), NONE);
        x = Check.withNet("n6;s01100;s12100;s23100;s34100;s45100");
        c.due("five are too many", x.worth(0), NONE);
        x = Check.withNet("n2;s01910;s01100");
        x.due(0);
        x.law(2);
        c.due("a cost that is spared", x.worth(1), (0 - 1) - (1 - 81));
    }

    private static void readingAndBack() {
        c.part("promises 15, 16");
        HomeByFour x = Check.withNet(Check.FOUR);
        c.due("back 0", x.back(0), 0);
        for (int r = 0; r < 8; r++) {
            c.due("reading " + r, x.reading(r % 5, r % 2 == 0), r);
        }
        c.due("full", x.reading(0, true), FULL);
        c.due("UNKNOWN ahead of FULL", x.reading(5, true), UNKNOWN);
        c.due("unknown -1", x.reading(-1, false), UNKNOWN);
        c.due("eight", x.many(4), 8);
        c.due("back 9", x.back(9), OUTSIDE);
        c.due("back -1", x.back(-1), OUTSIDE);
        c.due("back the least", x.back(MIN), OUTSIDE);
        c.due("back 3", x.back(3), 5);
        c.due("back 0", x.back(0), 5);
        c.due("back 6", x.back(6), OUTSIDE);
        c.due("reading again", x.reading(4, true), 5);
        c.due("back all", x.back(6), 0);
        c.due("back 1", x.back(1), OUTSIDE);
    }

    private static void dueOfTrails(HomeByFour x, int n, int t, int many, int... row) {
        c.due("trails(" + n + ", " + t + ", -1)", x.trails(n, t, -1), many);
        for (int q = 0; q < 5; q++) {
            c.due("trails(" + n + ", " + t + ", " + q + ")", x.trails(n, t, q), q < row.length ? row[q] : NONE);
        }
    }

    private static void trails() {
        c.part("promise 17");
        HomeByFour x = Check.withNet(Check.FOUR);
        dueOfTrails(x, 5, 6, 0);
        dueOfTrails(x, 5, 7, 1, 1, 4);
        dueOfTrails(x, 5, 9, 2, 0);
        dueOfTrails(x, 3, 200, 7, 0);
        x.reading(1, true);
        dueOfTrails(x, 3, 200, 3, 1, 4);
        x.reading(2, true);
        dueOfTrails(x, 3, 200, 1, 1, 2, 3);
        x.reading(2, false);
        dueOfTrails(x, 5, 200, 0);
        x.back(3);
        x.reading(1, false);
        x.reading(4, false);
        dueOfTrails(x, 1, 200, 1, 0);
        dueOfTrails(x, 3, 200, 3, 0);
        x.back(2);
        x.reading(0, false);
        dueOfTrails(x, 3, 200, 7, 0);
        x.reading(0, true);
        dueOfTrails(x, 5, 200, 0);
        x.back(2);
        x.close(0, true);
        dueOfTrails(x, 3, 200, 2, 1, 4);
        c.due("n 0", x.trails(0, 0, 0), OUTSIDE);
        c.due("n 6", x.trails(6, 0, 0), OUTSIDE);
        c.due("t -1", x.trails(1, -1, 0), OUTSIDE);
        c.due("t 201", x.trails(1, 201, 0), OUTSIDE);
        c.due("q -2", x.trails(1, 0, -2), OUTSIDE);
        c.due("q 5", x.trails(1, 0, 5), OUTSIDE);
        c.due("OUTSIDE ahead of STATE", new HomeByFour().trails(1, 201, 0), OUTSIDE);
        c.due("no net", new HomeByFour().trails(1, 200, 0), STATE);
        x = Check.withNet("n2" + ";s01100".repeat(8));
        dueOfTrails(x, 5, 200, 8 + 512 + 32768, 0);
        dueOfTrails(x, 5, 3, 8 + 512, 0);
        x = Check.withNet("n2;m01100;p01100");
        x.reading(0, true);
        dueOfTrails(x, 1, 200, 1, 0);
        x.reading(1, true);
        dueOfTrails(x, 3, 200, 6, 0, 0, 1);
    }

    private static void dueOfDawdle(HomeByFour x, int n, int place, long upper, long lower) {
        c.due("dawdle(" + n + ", " + place + ", 0)", x.dawdle(n, place, 0), upper);
        c.due("dawdle(" + n + ", " + place + ", 1)", x.dawdle(n, place, 1), lower);
    }

    private static void dawdle() {
        c.part("promise 18");
        HomeByFour x = Check.withNet(Check.FOUR);
        dueOfDawdle(x, 0, 0, 1, 1);
        dueOfDawdle(x, 0, 3, 0, 1);
        dueOfDawdle(x, 1, 1, 1, 2);
        dueOfDawdle(x, 2, 3, 1, 6);
        dueOfDawdle(x, 5, 0, 13, 81);
        dueOfDawdle(x, 5, 3, 55, 162);
        x.close(0, true);
        dueOfDawdle(x, 1, 1, 1, 1);
        dueOfDawdle(x, 2, 3, 1, 3);
        x.close(1, true);
        dueOfDawdle(x, 5, 0, 1, 1);
        dueOfDawdle(x, 5, 1, 0, 1);
        c.due("no place -1", x.dawdle(0, -1, 0), LOST);
        c.due("no place 4", x.dawdle(0, 4, 0), LOST);
        c.due("n -1", x.dawdle(-1, 0, 0), LOST);
        c.due("n 6", x.dawdle(6, 0, 0), LOST);
        c.due("which -1", x.dawdle(0, 0, -1), LOST);
        c.due("which 2", x.dawdle(0, 0, 2), LOST);
        x = Check.withNet("n7;s06100;s05100");
        dueOfDawdle(x, 1, 6, 1, 2);
        c.due("quickest to the seventh", x.quickest(6), 1);
        x = Check.withNet("n3;s01100;s10100;s12100");
        dueOfDawdle(x, 2, 0, 2, 3);
        dueOfDawdle(x, 2, 2, 1, 3);
        dueOfDawdle(x, 3, 1, 1, 1);
        dueOfDawdle(x, 4, 2, 1, 3);
    }

    private static void sheetAndLose() {
        c.part("promises 19, 20");
        HomeByFour x = new HomeByFour();
        c.due("unknown -1", x.sheet(-1, 3, 61), UNKNOWN);
        c.due("unknown 4", x.sheet(4, 0, -1), UNKNOWN);
        c.due("lane 3 ahead of SIZE", x.sheet(0, 3, -1), OUTSIDE);
        c.due("lane -1", x.sheet(0, -1, 1), OUTSIDE);
        c.due("n 61", x.sheet(0, 0, 61), OUTSIDE);
        c.due("n the most", x.sheet(0, 0, MAX), OUTSIDE);
        c.due("SIZE", x.sheet(0, 0, -1), SIZE);
        c.due("fault", x.fault(), 4);
        c.due("SIZE of the least", x.sheet(0, 0, MIN), SIZE);
        c.due("nothing still", x.lose(0), 0);
        c.due("60", x.sheet(0, 2, 60), 1);
        c.due("fault", x.fault(), 0);
        c.due("0 at first", x.cell(0, 59, 2), 0);
        x.put(0, 59, 7);
        c.due("a sheet that fails", x.sheet(0, 0, -1), SIZE);
        c.due("changes nothing", x.cell(0, 59, 2), 7);
        c.due("anew", x.sheet(0, 2, 60), 1);
        c.due("0 again", x.cell(0, 59, 2), 0);
        c.due("none", x.sheet(3, 1, 0), 1);
        c.due("of a row of none", x.cell(3, 0, 1), LOST);
        c.due("fault INDEX", x.fault(), 3);
        c.due("lose a row of none", x.lose(3), 1);
        c.due("lose again", x.lose(3), 0);
        c.due("lose -1", x.lose(-1), UNKNOWN);
        c.due("lose 4", x.lose(4), UNKNOWN);
        c.due("lose names no fault", x.fault(), 3);
        c.due("another sheet is kept", x.lose(0), 1);
        c.due("shorter", x.sheet(0, 0, 1), 1);
        c.due("beyond the shorter one", x.put(0, 1, 1), INDEX);
    }

    private static void put() {
        c.part("promise 21");
        HomeByFour x = new HomeByFour();
        c.due("unknown -1", x.put(-1, 0, 0), UNKNOWN);
        c.due("unknown 4", x.put(4, 0, 0), UNKNOWN);
        c.due("NULL", x.put(0, -1, 0), NULL);
        c.due("fault", x.fault(), 1);
        int[] values = {127, 128, -129, 300, 70001, MAX, MIN, 32768};
        int[][] cut = {{127, -128, 127, 44, 113, -1, 0, 0}, {127, 128, -129, 300, 4465, -1, 0, -32768}, values};
        for (int lane = 0; lane < 3; lane++) {
            x.sheet(lane, lane, 8);
            for (int i = 0; i < 8; i++) {
                c.due("put", x.put(lane, i, values[i]), 1);
                c.due("cut to lane " + lane, x.cell(lane, i, lane), cut[lane][i]);
            }
            c.due("INDEX 8", x.put(lane, 8, 0), INDEX);
            c.due("INDEX -1", x.put(lane, -1, 0), INDEX);
            c.due("INDEX the least", x.put(lane, MIN, 0), INDEX);
            c.due("fault", x.fault(), 3);
        }
        c.due("put", x.put(0, 0, 1), 1);
        c.due("fault", x.fault(), 0);
    }

    private static void dueOfLostCell(HomeByFour x, int k, int i, int lane, int fault) {
        c.due("cell(" + k + ", " + i + ", " + lane + ")", x.cell(k, i, lane), LOST);
        c.due("its fault", x.fault(), fault);
    }

    private static void cell() {
        c.part("promise 22");
        HomeByFour x = new HomeByFour();
        Check.write(x, 1, 1, 5, -6);
        c.due("cell 0", x.cell(1, 0, 1), 5);
        c.due("cell 1", x.cell(1, 1, 1), -6);
        dueOfLostCell(x, 1, 2, 1, 3);
        dueOfLostCell(x, 1, -1, 1, 3);
        dueOfLostCell(x, 4, 0, 1, 0);
        dueOfLostCell(x, 1, 2, 0, 2);
        dueOfLostCell(x, -1, 0, 1, 0);
        dueOfLostCell(x, 2, -1, 0, 1);
        dueOfLostCell(x, 2, -1, 3, 0);
        dueOfLostCell(x, 1, 0, 2, 2);
        dueOfLostCell(x, 1, 0, -1, 0);
        x.put(1, 9, 9);
        c.due("cell 0 again", x.cell(1, 0, 1), 5);
        c.due("no fault", x.fault(), 0);
    }

    private static void dueOfRow(HomeByFour x, int k, int lane, int... want) {
        for (int i = 0; i < want.length; i++) {
            c.due("cell " + i + " of " + k, x.cell(k, i, lane), want[i]);
        }
    }

    private static void copy() {
        c.part("promise 23");
        HomeByFour x = new HomeByFour();
        Check.write(x, 0, 1, 1, 2, 3, 4, 5);
        Check.write(x, 1, 1, 9, 9, 9);
        Check.write(x, 2, 2, 0, 0, 0);
        c.due("to another one", x.copy(0, 3, 1, 1, 2), 2);
        dueOfRow(x, 1, 1, 9, 4, 5);
        c.due("upwards in the same", x.copy(0, 0, 0, 1, 4), 4);
        dueOfRow(x, 0, 1, 1, 1, 2, 3, 4);
        c.due("downwards in the same", x.copy(0, 1, 0, 0, 4), 4);
        dueOfRow(x, 0, 1, 1, 2, 3, 4, 4);
        c.due("none at the ends", x.copy(0, 5, 1, 3, 0), 0);
        c.due("unknown -1 ahead of NULL", x.copy(-1, 0, 3, 0, 0), UNKNOWN);
        c.due("unknown 4", x.copy(3, 0, 4, 0, 0), UNKNOWN);
        c.due("fault", x.fault(), 0);
        c.due("NULL, the first", x.copy(3, 0, 0, 0, 0), NULL);
        c.due("NULL, the other, ahead of INDEX", x.copy(0, -1, 3, 0, 0), NULL);
        c.due("fault", x.fault(), 1);
        c.due("CAST ahead of INDEX", x.copy(0, -1, 2, 0, -1), CAST);
        c.due("CAST though none are taken", x.copy(0, 0, 2, 0, 0), CAST);
        c.due("fault", x.fault(), 2);
        int[][] beyond = {{-1, 0, 0}, {0, -1, 0}, {0, 0, -1}, {6, 0, 0}, {0, 4, 0}, {4, 0, 2}, {0, 2, 2}, {0, 0, 4},
            {MAX, 0, 1}, {0, MAX, 1}, {1, 0, MAX}, {0, 0, MIN}, {MAX, MAX, MAX}, {MIN, MIN, MIN}};
        for (int[] b : beyond) {
            c.due("INDEX", x.copy(0, b[0], 1, b[1], b[2]), INDEX);
            c.due("fault", x.fault(), 3);
        }
        dueOfRow(x, 1, 1, 9, 4, 5);
        c.due("all", x.copy(1, 0, 0, 2, 3), 3);
        c.due("fault", x.fault(), 0);
        dueOfRow(x, 0, 1, 1, 2, 9, 4, 5);
    }

    private static int left(int... numbers) {
        int trace = 0;
        for (int number : numbers) {
            trace = 31 * trace + number;
        }
        return trace;
    }

    private static void tellAndSing() {
        c.part("promises 24, 25, 27");
        HomeByFour x = Check.withNet(Check.FOUR);
        c.due("tell a stretch", x.tell(0), 9);
        c.due("trace", x.trace(), left(1));
        c.due("tell a muddy one", x.tell(4), 104);
        c.due("trace", x.trace(), left(1, 2, 1));
        c.due("tell a steep one", x.tell(2), 104);
        c.due("trace", x.trace(), left(1, 2, 1, 3, 2, 1, 1));
        c.due("sing of a stretch", x.sing(3), 3);
        c.due("sing of a muddy one", x.sing(4), 4);
        c.due("sing of a steep one", x.sing(2), 40);
        c.due("trace", x.trace(), left(1, 2, 1, 3, 2, 1, 1, 4, 4, 5));
        c.due("tell -1", x.tell(-1), UNKNOWN);
        c.due("tell 5", x.tell(5), UNKNOWN);
        c.due("sing -1", x.sing(-1), UNKNOWN);
        c.due("sing 5", x.sing(5), UNKNOWN);
        x.friend(3);
        c.due("tell with a friend", x.tell(2), 104);
        c.due("trace", x.trace(), left(1, 2, 1, 3, 2, 1, 1, 4, 4, 5, 3, 2, 1, 1));
    }

    private static void as() {
        c.part("promise 26");
        HomeByFour x = Check.withNet(Check.FOUR);
        int[] kinds = {0, 1, 2, 0, 1};
        for (int k = 0; k < 5; k++) {
            for (int kind = 0; kind < 3; kind++) {
                boolean fits = kind <= kinds[k];
                c.due("as(" + k + ", " + kind + ")", x.as(k, kind), fits ? 1 : CAST);
                c.due("its fault", x.fault(), fits ? 0 : 2);
            }
        }
        c.due("kind 3", x.as(2, 3), OUTSIDE);
        c.due("kind -1", x.as(2, -1), OUTSIDE);
        c.due("UNKNOWN ahead of OUTSIDE", x.as(5, 3), UNKNOWN);
        c.due("unknown -1", x.as(-1, 0), UNKNOWN);
        c.due("fault", x.fault(), 0);
    }

    /** A fault, which the refusals below must then take away, or not. */
    private static void makeFault(HomeByFour x) {
        x.sheet(3, 0, -1);
        c.due("fault is there", x.fault(), 4);
    }

    private static void fault() {
        c.part("promise 28");
        HomeByFour x = Check.withNet(Check.FOUR);
        makeFault(x);
        x.due(1);
        x.due(-1);
        x.law(0);
        x.friend(9);
        x.close(9, true);
        x.ofStretch(9, 9);
        x.quickest(9);
        x.best(9, 9);
        x.worth(9);
        x.reading(9, true);
        x.back(9);
        x.trails(9, 9, 9);
        x.dawdle(9, 9, 9);
        x.lose(9);
        x.lose(3);
        x.tell(9);
        x.tell(0);
        x.sing(0);
        x.trace();
        x.many(9);
        c.due("calls that name none leave it", x.fault(), 4);
        c.due("and so does fault", x.fault(), 4);
        Runnable[] refusals = {() -> x.net(9, 0, 0, 0), () -> x.net(0, 9, 0, 0), () -> x.walk(9, 0, 0, 0, 0),
            () -> x.walk(0, 0, 0, 13, 0), () -> x.walk(0, 0, 0, 1, 0), () -> x.safe(9, 0, 0, 0, 0),
            () -> x.safe(0, 0, 0, 0, 9), () -> x.sheet(9, 0, 0), () -> x.sheet(0, 0, 61), () -> x.put(9, 0, 0),
            () -> x.cell(9, 0, 0), () -> x.cell(0, 0, 9), () -> x.copy(9, 0, 0, 0, 0), () -> x.copy(0, 0, 9, 0, 0),
            () -> x.as(9, 0), () -> x.as(0, 9), () -> x.net(0, 0, 0, 1), () -> x.net(0, 0, 0, 37),
            () -> x.walk(0, 0, 0, 0, 0), () -> x.safe(0, 0, 0, 0, 0), () -> x.put(0, 0, 0), () -> x.cell(0, 0, 0),
            () -> x.copy(0, 0, 0, 0, 0), () -> x.as(0, 0), () -> x.sheet(3, 0, 0)};
        for (int k = 0; k < refusals.length; k++) {
            makeFault(x);
            refusals[k].run();
            c.due("fault behind call " + k, x.fault(), 0);
        }
    }

    private static void many() {
        c.part("promise 29");
        HomeByFour x = Check.withNet(Check.FOUR);
        x.due(12);
        x.law(2);
        x.reading(0, true);
        x.reading(0, true);
        x.reading(0, true);
        int[] want = {4, 5, 12, 2, 3};
        for (int what = 0; what < 5; what++) {
            c.due("many(" + what + ")", x.many(what), want[what]);
        }
        c.due("many(-1)", x.many(-1), OUTSIDE);
        c.due("many(5)", x.many(5), OUTSIDE);
        c.due("many(5), no net", new HomeByFour().many(5), OUTSIDE);
    }
}
