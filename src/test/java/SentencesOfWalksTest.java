/** The sentences of walks: terms 2, and promises 8 and 9. */
public final class SentencesOfWalksTest extends Sentences {
    public static void main(String[] args) {
        c.run(
            () -> fromTheSchool(),
            () -> eitherWay(),
            () -> firstWrong(),
            () -> minutes(),
            () -> sights(),
            () -> late(),
            () -> costByLaw0(),
            () -> costByLaw1(),
            () -> costByLaw2(),
            () -> joy(),
            () -> safety(),
            () -> safetyOfAll(),
            () -> walkAnswers(),
            () -> walkWrong(),
            () -> walkRefusals(),
            () -> walkLengths(),
            () -> walkUnknownStretch(),
            () -> safeAnswers(),
            () -> safeLost());
        c.end();
    }

    // ---- terms 2

    private static void fromTheSchool() {
        c.sentence("a row of STRETCHES from the SCHOOL on");
        HomeByFour x = Check.withNet(Check.FOUR);
        c.due("none", walked(x, 0), 0);
        c.due("from the school", walked(x, 0, 1), 1);
        c.due("from elsewhere", walked(x, 0, 2), -100);
        c.due("from home", walked(x, 0, 4), -100);
        c.due("each walk anew", walked(x, 0, 0), 3);
        c.due("each walk anew, again", walked(x, 0, 0), 3);
    }

    private static void eitherWay() {
        c.sentence("each from where one is to its other PLACE (either way; one may go it again)");
        HomeByFour x = Check.withNet("n3;s10100;s12100");
        c.due("from the second to the first", walked(x, 0, 0), 1);
        c.due("and back", walked(x, 0, 0, 0), 0);
        c.due("and again", walked(x, 0, 0, 0, 0), 1);
        c.due("on", walked(x, 0, 0, 1), 2);
        c.due("on and back", walked(x, 0, 0, 1, 1), 1);
        c.due("on and back, twice", walked(x, 0, 0, 1, 1, 0), 0);
        c.due("twelve times", walked(x, 0, times(12, 0)), 0);
        c.due("eleven times", walked(x, 0, times(11, 0)), 1);
    }

    private static void firstWrong() {
        c.sentence("FIRST WRONG: the first that is CLOSED, or not at the PLACE where one is then.");
        HomeByFour x = Check.withNet(Check.FOUR);
        c.due("none is", walked(x, 0, 1, 2, 3), 3);
        c.due("the second is not there", walked(x, 0, 1, 3, 3), -101);
        c.due("the last of twelve", walked(x, 0, 0, 0, 0, 0, 0, 0, 0, 0, 0, 0, 0, 2), -111);
        c.due("two are, the first is told", walked(x, 0, 1, 3, 0), -101);
        x.close(3, true);
        c.due("the third is closed", walked(x, 0, 1, 2, 3), -102);
        c.due("closed ahead of not there", walked(x, 0, 1, 2, 3, 0), -102);
        c.due("not there ahead of closed", walked(x, 0, 1, 0, 3), -101);
        c.due("closed and not there", walked(x, 0, 1, 3), -101);
        c.due("ahead of the closed one", walked(x, 0, 1, 2), 2);
        x.close(1, true);
        c.due("the first is closed", walked(x, 0, 1, 2, 3), -100);
        x.close(1, false);
        x.close(3, false);
        c.due("none is again", walked(x, 0, 1, 2, 3), 3);
    }

    private static void minutes() {
        c.sentence("MINUTES of a WALK: all that its STRETCHES TAKE.");
        HomeByFour x = Check.withNet("n2;s01300;m01300;p01300");
        c.due("none", walked(x, 1), 0);
        c.due("a stretch", walked(x, 1, 0), 3);
        c.due("a muddy one", walked(x, 1, 1), 4);
        c.due("a steep one", walked(x, 1, 2), 8);
        c.due("all", walked(x, 1, 0, 1, 2), 15);
        c.due("one again and again", walked(x, 1, times(12, 2)), 96);
        x.friend(1);
        c.due("all, shared", walked(x, 1, 0, 1, 2), 18);
        c.due("one again and again, shared", walked(x, 1, times(12, 2)), 108);
    }

    private static void sights() {
        c.sentence("SIGHTS of a WALK: those of its STRETCHES, of each but once.");
        HomeByFour x = Check.withNet("n2;s01190;s01190;s01100;s01110");
        c.due("none", walked(x, 2), 0);
        c.due("one", walked(x, 2, 0), 9);
        c.due("one again", walked(x, 2, 0, 0), 9);
        c.due("two alike", walked(x, 2, 0, 1), 18);
        c.due("one again behind another one", walked(x, 2, 0, 1, 0, 1), 18);
        c.due("one without sights", walked(x, 2, 0, 2), 9);
        c.due("all", walked(x, 2, 3, 2, 1, 0), 19);
        c.due("twelve", walked(x, 2, 0, 0, 0, 0, 0, 0, 0, 0, 0, 0, 0, 3), 10);
    }

    private static void dueOfJoy(HomeByFour x, int due, int joy, int... row) {
        x.due(due);
        c.due("joy of " + row.length + ", due behind " + due, walked(x, 3, row), 100000 + joy);
    }

    private static void late() {
        c.sentence("LATE: MINUTES above those behind which one is DUE (0 at least).");
        HomeByFour x = Check.withNet("n2;s01950");
        for (int law = 0; law < 3; law++) {
            x.law(law);
            dueOfJoy(x, 9, 5, 0);
            dueOfJoy(x, 10, 5, 0);
            dueOfJoy(x, 19, 5, 0);
            dueOfJoy(x, 99, 5, 0);
            dueOfJoy(x, 0, 0);
        }
        x.law(0);
        dueOfJoy(x, 8, 4, 0);
        dueOfJoy(x, 0, -4, 0);
        dueOfJoy(x, 99, -4, times(12, 0));
        dueOfJoy(x, 45, 5, times(5, 0));
        dueOfJoy(x, 45, -4, times(6, 0));
    }

    private static void costByLaw0() {
        c.sentence("COST of LATE: by LAW 0 as much");
        HomeByFour x = Check.withNet("n2;s01900");
        for (int late = 0; late <= 9; late++) {
            dueOfJoy(x, 9 - late, -late, 0);
        }
        dueOfJoy(x, 0, -108, times(12, 0));
    }

    private static void costByLaw1() {
        c.sentence("by LAW 1 nothing up to 5, then 3 for each above 5");
        HomeByFour x = Check.withNet("n2;s01900");
        x.law(1);
        int[] costs = {0, 0, 0, 0, 0, 0, 3, 6, 9, 12};
        for (int late = 0; late <= 9; late++) {
            dueOfJoy(x, 9 - late, -costs[late], 0);
        }
        dueOfJoy(x, 0, -3 * 103, times(12, 0));
    }

    private static void costByLaw2() {
        c.sentence("by LAW 2 its square.");
        HomeByFour x = Check.withNet("n2;s01900");
        x.law(2);
        int[] costs = {0, 1, 4, 9, 16, 25, 36, 49, 64, 81};
        for (int late = 0; late <= 9; late++) {
            dueOfJoy(x, 9 - late, -costs[late], 0);
        }
        x = Check.withNet("n2;p01990");
        x.law(2);
        x.friend(1);
        dueOfJoy(x, 0, 9 - 252 * 252, times(12, 0));
    }

    private static void joy() {
        c.sentence("JOY: SIGHTS less COST.");
        HomeByFour x = Check.withNet("n2;s01590;s01240");
        dueOfJoy(x, 5, 9, 0);
        dueOfJoy(x, 4, 8, 0);
        dueOfJoy(x, 5, 11, 0, 1);
        dueOfJoy(x, 0, 6, 0, 1);
        dueOfJoy(x, 0, 9 - 10, 0, 0);
        dueOfJoy(x, 0, 0);
    }

    private static void safety() {
        c.sentence("of each STRETCH, as often as it is gone, 10 less its DANGER, in tenths, multiplied.");
        long[] uppers = {1, 9, 4, 7, 3, 1, 2, 3, 1, 1};
        long[] lowers = {1, 10, 5, 10, 5, 2, 5, 10, 5, 10};
        for (int danger = 0; danger <= 9; danger++) {
            HomeByFour x = Check.withNet("n2;s0110" + danger + ";s01100");
            dueOfSafe(x, uppers[danger], lowers[danger], 0);
            dueOfSafe(x, uppers[danger] * uppers[danger], lowers[danger] * lowers[danger], 0, 0);
            dueOfSafe(x, uppers[danger], lowers[danger], 0, 1);
            dueOfSafe(x, 1, 1, 1);
        }
    }

    private static void safetyOfAll() {
        c.sentence("SAFE: how likely one comes through");
        HomeByFour x = Check.withNet("n2;s01109;s01101;s01105;s01103");
        dueOfSafe(x, 1, 1);
        dueOfSafe(x, 1, 1000000000000L, times(12, 0));
        dueOfSafe(x, 282429536481L, 1000000000000L, times(12, 1));
        dueOfSafe(x, 1, 4096, times(12, 2));
        dueOfSafe(x, 13841287201L, 1000000000000L, times(12, 3));
        dueOfSafe(x, 63, 2000, 0, 1, 2, 3);
    }

    // ---- promises 8, 9

    private static void walkAnswers() {
        c.sentence("A WALK of n such cells: its PLACE at the end (what 0), MINUTES (1), SIGHTS (2), JOY and"
            + " 100000 (3)");
        for (int lane = 0; lane < 3; lane++) {
            HomeByFour x = Check.withNet(Check.FOUR);
            x.due(9);
            Check.write(x, 1, lane, 9, 1, 4, 3, 9);
            int[][] want = {{0, 0, 0, 100000}, {1, 2, 9, 100009}, {3, 7, 11, 100011}, {2, 10, 12, 100011}};
            for (int n = 0; n <= 3; n++) {
                for (int what = 0; what < 4; what++) {
                    c.due("walk of " + n + ", what " + what, x.walk(1, lane, 1, n, what), want[n][what]);
                }
            }
            c.due("no walk changes where one is", x.walk(1, lane, 1, 1, 0), 1);
        }
    }

    private static void walkWrong() {
        c.sentence("-100 less the FIRST WRONG. UNKNOWN: SHEET");
        HomeByFour x = Check.withNet(Check.FOUR);
        Check.write(x, 1, 0, 1, 2, 1, 0);
        for (int what = 0; what < 4; what++) {
            c.due("the third", x.walk(1, 0, 0, 3, what), -102);
            c.due("counted from i on", x.walk(1, 0, 1, 2, what), -100);
            c.due("counted from i on, the second", x.walk(1, 0, 2, 2, what), -101);
        }
        c.due("fault", x.fault(), 0);
    }

    private static void walkRefusals() {
        c.sentence("UNKNOWN: SHEET; OUTSIDE: lane, what; STATE: there is no NET; CAST; NULL; SIZE; INDEX;");
        HomeByFour x = State.bare();
        for (int v : new int[] {-1, 4, MIN, MAX}) {
            c.due("sheet " + v, x.walk(v, 3, -1, -1, 4), UNKNOWN);
            c.due("what " + v, x.walk(0, 0, 0, 0, v), OUTSIDE);
        }
        for (int lane : new int[] {-1, 3, MIN, MAX}) {
            c.due("lane " + lane, x.walk(0, lane, 0, 0, 0), OUTSIDE);
        }
        c.due("no net", x.walk(0, 0, 0, 0, 0), STATE);
        c.due("no net, nothing", x.walk(3, 0, 0, 0, 3), STATE);
        x = State.full();
        for (int lane = 0; lane < 3; lane++) {
            for (int sheet = 0; sheet < 3; sheet++) {
                c.due("sheet " + sheet + " as lane " + lane, x.walk(sheet, lane, 0, 0, 0), sheet == lane ? 0 : CAST);
            }
            c.due("nothing as lane " + lane, x.walk(3, lane, -1, -1, 0), NULL);
        }
        c.due("SIZE -1", x.walk(0, 0, 0, -1, 0), SIZE);
        c.due("SIZE of the least", x.walk(0, 0, 4, MIN, 0), SIZE);
        int[][] beyond = {{-1, 0}, {-1, 1}, {0, 4}, {1, 3}, {3, 1}, {4, 0}, {0, 13}, {0, MAX}, {MAX, MAX}, {MIN, 0}};
        for (int[] b : beyond) {
            c.due("INDEX of " + b[1] + " from " + b[0], x.walk(0, 0, b[0], b[1], 0), INDEX);
        }
    }

    private static void walkLengths() {
        c.sentence("OUTSIDE: n above 12; UNKNOWN: a STRETCH.");
        HomeByFour x = Check.withNet("n2;s01100");
        Check.write(x, 1, 2, times(60, 0));
        for (int n = 0; n <= 12; n++) {
            c.due("walk of " + n, x.walk(1, 2, 0, n, 1), n);
            c.due("the last " + n, x.walk(1, 2, 60 - n, n, 1), n);
        }
        for (int n : new int[] {13, 14, 60}) {
            c.due("walk of " + n, x.walk(1, 2, 0, n, 1), OUTSIDE);
            c.due("fault", x.fault(), 0);
        }
        c.due("walk of 61", x.walk(1, 2, 0, 61, 1), INDEX);
    }

    private static void walkUnknownStretch() {
        c.sentence("UNKNOWN: a STRETCH.");
        for (int k : new int[] {-1, 5, 9, 256, MAX, MIN}) {
            HomeByFour x = Check.withNet(Check.FOUR);
            c.due("the first is " + k, walked(x, 0, k), UNKNOWN);
            c.due("the last is " + k, walked(x, 0, 1, 2, k), UNKNOWN);
            c.due("the twelfth is " + k, walked(x, 0, 0, 0, 0, 0, 0, 0, 0, 0, 0, 0, 0, k), UNKNOWN);
            c.due("behind a FIRST WRONG", walked(x, 0, 2, k), UNKNOWN);
            c.due("the thirteenth is " + k, walked(x, 0, 0, 0, 0, 0, 0, 0, 0, 0, 0, 0, 0, 0, k), OUTSIDE);
        }
        HomeByFour x = Check.withNet(Check.FOUR);
        Check.write(x, 1, 0, 256, 257, 258, 9);
        c.due("bytes are cut to stretches", x.walk(1, 0, 1, 2, 0), 2);
        c.due("one behind the n cells", x.walk(1, 0, 0, 1, 0), 3);
    }

    private static void safeAnswers() {
        c.sentence("SAFE of a WALK of n such cells (which 0 the upper, 1 the lower number).");
        for (int lane = 0; lane < 3; lane++) {
            HomeByFour x = Check.withNet(Check.FOUR);
            Check.write(x, 1, lane, 9, 1, 4, 4, 2, 3, 9);
            long[] uppers = {1, 1, 9, 81, 81, 567};
            long[] lowers = {1, 1, 10, 100, 100, 1000};
            for (int n = 0; n <= 5; n++) {
                c.due("safe of " + n + ", upper", x.safe(1, lane, 1, n, 0), uppers[n]);
                c.due("safe of " + n + ", lower", x.safe(1, lane, 1, n, 1), lowers[n]);
            }
        }
    }

    private static void dueOfLost(HomeByFour x, String what, long got, int fault) {
        c.due(what, got, LOST);
        c.due("its fault", x.fault(), fault);
    }

    private static void safeLost() {
        c.sentence("LOST: as walk() (which in the place of what), a FIRST WRONG, too.");
        HomeByFour x = State.bare();
        State.fail(x, 4);
        dueOfLost(x, "no net", x.safe(0, 0, 0, 0, 0), 0);
        x = Check.withNet("n2;s01100;s01100");
        Check.write(x, 1, 1, times(12, 0));
        Check.write(x, 2, 2, times(13, 1));
        for (int v : new int[] {-1, 2, 3, 4, MIN, MAX}) {
            State.fail(x, 4);
            dueOfLost(x, "which " + v, x.safe(1, 1, 0, 1, v), 0);
        }
        State.fail(x, 4);
        dueOfLost(x, "sheet 4", x.safe(4, 1, 0, 1, 0), 0);
        dueOfLost(x, "nothing", x.safe(3, 1, 0, 1, 0), 1);
        dueOfLost(x, "lane 3", x.safe(1, 3, 0, 1, 0), 0);
        dueOfLost(x, "another lane", x.safe(1, 2, 0, 1, 0), 2);
        dueOfLost(x, "n -1", x.safe(1, 1, 0, -1, 0), 4);
        dueOfLost(x, "beyond", x.safe(1, 1, 12, 1, 1), 3);
        dueOfLost(x, "n 13", x.safe(2, 2, 0, 13, 1), 0);
        c.due("n 12", x.safe(2, 2, 0, 12, 1), 1);
        State.fail(x, 4);
        x.put(2, 3, 2);
        dueOfLost(x, "a stretch that is none", x.safe(2, 2, 0, 4, 0), 0);
        c.due("ahead of it", x.safe(2, 2, 0, 3, 0), 1);
        x.close(1, true);
        State.fail(x, 4);
        dueOfLost(x, "a FIRST WRONG", x.safe(2, 2, 0, 1, 0), 0);
        c.due("none are never wrong", x.safe(2, 2, 0, 0, 0), 1);
    }
}
