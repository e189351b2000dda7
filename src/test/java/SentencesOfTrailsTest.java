/** The sentences of trails and dawdling: terms 4, and promises 15 to 18. */
public final class SentencesOfTrailsTest extends Sentences {
    public static void main(String[] args) {
        c.run(
            () -> readingsAtMost(),
            () -> mud(),
            () -> mudOfAnother(),
            () -> trailsAreWalksHome(),
            () -> trailsOfLength(),
            () -> trailsInMinutes(),
            () -> allReadings(),
            () -> firstTrail(),
            () -> dawdling(),
            () -> dawdlingStays(),
            () -> dawdlingJust(),
            () -> reading(),
            () -> back(),
            () -> trails(),
            () -> trailsRefusals(),
            () -> dawdle(),
            () -> dawdleLost());
        c.end();
    }

    // ---- terms 4

    private static void readingsAtMost() {
        c.sentence("READINGS, 8 at most, numbered by how many there are");
        HomeByFour x = Check.withNet("n2;m01100;p01100");
        for (int r = 0; r < 8; r++) {
            c.due("reading " + r, x.reading(r % 2, r % 2 == 0), r);
            c.due("how many", x.many(4), r + 1);
        }
        c.due("a ninth", x.reading(0, true), FULL);
        c.due("eight still", x.many(4), 8);
        dueOfTrails(x, 3, 200, 2, 0);
        x.back(1);
        c.due("another eighth", x.reading(1, true), 7);
        dueOfTrails(x, 5, 200, 0);
        x.back(8);
        c.due("the first again", x.reading(0, false), 0);
        dueOfTrails(x, 1, 200, 1, 1);
    }

    private static void mud() {
        c.sentence("there was MUD of a STRETCH (MUDDY ones and STEEP ones leave theirs, if they are gone), or not.");
        for (char letter : "smp".toCharArray()) {
            boolean leaves = letter != 's';
            String text = "n2;" + letter + "01100;s01100";
            HomeByFour x = Check.withNet(text);
            c.due("walks of 1", x.trails(1, 200, -1), 2);
            x.reading(0, true);
            c.due("mud of " + letter, x.trails(1, 200, -1), leaves ? 1 : 0);
            c.due("the first, mud of " + letter, x.trails(1, 200, 0), leaves ? 0 : NONE);
            c.due("of 3, mud of " + letter, x.trails(3, 200, -1), leaves ? 1 + 7 : 0);
            x.back(1);
            x.reading(0, false);
            c.due("no mud of " + letter, x.trails(1, 200, -1), leaves ? 1 : 2);
            c.due("the first, no mud of " + letter, x.trails(1, 200, 0), leaves ? 1 : 0);
            c.due("of 3, no mud of " + letter, x.trails(3, 200, -1), leaves ? 1 + 1 : 2 + 8);
        }
    }

    private static void mudOfAnother() {
        c.sentence("if they are gone");
        HomeByFour x = Check.withNet("n3;m01100;m12100;m02100;p02100");
        x.reading(2, true);
        dueOfTrails(x, 1, 200, 1, 2);
        x.reading(3, false);
        dueOfTrails(x, 1, 200, 1, 2);
        x.back(2);
        x.reading(2, false);
        dueOfTrails(x, 1, 200, 1, 3);
        x.reading(3, false);
        dueOfTrails(x, 2, 200, 1, 0, 1);
        x.reading(0, false);
        dueOfTrails(x, 5, 200, 0);
    }

    private static void trailsAreWalksHome() {
        c.sentence("TRAILS: WALKS that end at HOME");
        HomeByFour x = Check.withNet("n3;s01100;s12100;s02100");
        dueOfTrails(x, 1, 200, 1, 2);
        dueOfTrails(x, 2, 200, 2, 2);
        // Of 3 stretches: 0 0 2, 2 1 1 and 2 2 2.
        dueOfTrails(x, 3, 200, 2 + 3, 2);
        x.close(2, true);
        dueOfTrails(x, 2, 200, 1, 0, 1);
        dueOfTrails(x, 3, 200, 1, 0, 1);
        dueOfTrails(x, 4, 200, 3, 0, 1);
        x.close(1, true);
        dueOfTrails(x, 5, 200, 0);
    }

    private static void trailsOfLength() {
        c.sentence("of 1 to n STRETCHES (n 1 .. 5)");
        HomeByFour x = Check.withNet("n2;s01100");
        int[] many = {1, 1, 2, 2, 3};
        for (int n = 1; n <= 5; n++) {
            dueOfTrails(x, n, 200, many[n - 1], 0);
        }
        x = Check.withNet(chain(6));
        for (int n = 1; n < 5; n++) {
            dueOfTrails(x, n, 200, 0);
        }
        dueOfTrails(x, 5, 200, 1, 0, 1, 2, 3, 4);
        x = Check.withNet("n2;s01100;s01100;s01100;s01100;s01100;s01100;s01100;s01100");
        int[] ofEight = {8, 8, 8 + 512, 8 + 512, 8 + 512 + 32768};
        for (int n = 1; n <= 5; n++) {
            c.due("trails of " + n, x.trails(n, 200, -1), ofEight[n - 1]);
        }
    }

    private static void trailsInMinutes() {
        c.sentence("in t MINUTES at most");
        HomeByFour x = Check.withNet("n2;s01900;m01200");
        dueOfTrails(x, 1, 0, 0);
        dueOfTrails(x, 1, 2, 0);
        dueOfTrails(x, 1, 3, 1, 1);
        dueOfTrails(x, 1, 8, 1, 1);
        dueOfTrails(x, 1, 9, 2, 0);
        dueOfTrails(x, 3, 8, 1, 1);
        dueOfTrails(x, 3, 9, 3, 0);
        dueOfTrails(x, 3, 26, 2 + 1 + 3 + 3, 0);
        dueOfTrails(x, 3, 27, 2 + 8, 0);
        x.friend(1);
        dueOfTrails(x, 1, 3, 0);
        dueOfTrails(x, 1, 4, 1, 1);
        x = Check.withNet("n2;p01900");
        x.friend(1);
        dueOfTrails(x, 5, 104, 2, 0);
        dueOfTrails(x, 5, 105, 3, 0);
        dueOfTrails(x, 5, 200, 3, 0);
    }

    private static void allReadings() {
        c.sentence("by which all READINGS are so");
        HomeByFour x = Check.withNet("n2;m01100;p01100;s01100");
        dueOfTrails(x, 3, 200, 3 + 27, 0);
        x.reading(0, true);
        dueOfTrails(x, 1, 200, 1, 0);
        x.reading(1, true);
        dueOfTrails(x, 1, 200, 0);
        // Of 3 stretches with both: 6 of the three kinds, 3 and 3 with one of them twice.
        dueOfTrails(x, 3, 200, 12, 0, 0, 1);
        x.reading(0, true);
        dueOfTrails(x, 3, 200, 12, 0, 0, 1);
        x.reading(1, false);
        dueOfTrails(x, 5, 200, 0);
        x.back(1);
        dueOfTrails(x, 3, 200, 12, 0, 0, 1);
        x.back(3);
        x.reading(0, false);
        x.reading(1, false);
        dueOfTrails(x, 3, 200, 2, 2);
    }

    private static void firstTrail() {
        c.sentence("how many; the first one (of the fewest STRETCHES, then as a row).");
        HomeByFour x = Check.withNet("n3;s01190;s12190;s02909;s02100");
        dueOfTrails(x, 2, 200, 3, 2);
        dueOfTrails(x, 2, 8, 2, 3);
        x.close(3, true);
        dueOfTrails(x, 2, 8, 1, 0, 1);
        x = Check.withNet("n3;s12100;s12100;s01100;s01100");
        dueOfTrails(x, 2, 200, 4, 2, 0);
        x.close(2, true);
        dueOfTrails(x, 2, 200, 2, 3, 0);
    }

    private static void dawdling() {
        c.sentence("DAWDLING: at each PLACE one takes any of its STRETCHES that are not CLOSED, all alike");
        HomeByFour x = Check.withNet("n3;s01901;p01299;s20100");
        dueOfDawdle(x, 1, 1, 2, 3);
        dueOfDawdle(x, 1, 2, 1, 3);
        x.friend(2);
        dueOfDawdle(x, 1, 1, 2, 3);
        x.close(0, true);
        dueOfDawdle(x, 1, 1, 1, 2);
        x.close(2, true);
        dueOfDawdle(x, 1, 1, 1, 1);
        dueOfDawdle(x, 1, 2, 0, 1);
        x.close(2, false);
        x.close(0, false);
        dueOfDawdle(x, 3, 1, 2, 3);
        x = Check.withNet("n7;s01100;s02100;s03100;s04100;s05100;s06100;s01100;s01100");
        dueOfDawdle(x, 1, 1, 3, 8);
        dueOfDawdle(x, 1, 6, 1, 8);
        dueOfDawdle(x, 5, 6, 1, 8);
        x.close(0, true);
        dueOfDawdle(x, 5, 6, 1, 7);
        dueOfDawdle(x, 5, 1, 2, 7);
    }

    private static void dawdlingStays() {
        c.sentence("(none there: one stays)");
        HomeByFour x = Check.withNet("n3;s12100;s02100");
        x.close(1, true);
        for (int n = 0; n <= 5; n++) {
            dueOfDawdle(x, n, 0, 1, 1);
            dueOfDawdle(x, n, 1, 0, 1);
            dueOfDawdle(x, n, 2, 0, 1);
        }
        x.close(1, false);
        dueOfDawdle(x, 1, 0, 0, 1);
        dueOfDawdle(x, 2, 0, 1, 2);
        x = Check.withNet("n4;s12100");
        dueOfDawdle(x, 5, 0, 1, 1);
    }

    private static void dawdlingJust() {
        c.sentence("how likely one is at a PLACE behind just n STRETCHES (0 .. 5).");
        HomeByFour x = Check.withNet("n3;s01100;s12100");
        int[] twices = {0, 0, 1, 0, 1, 0};
        for (int n = 0; n <= 5; n++) {
            boolean isOdd = n % 2 == 1;
            dueOfDawdle(x, n, 1, isOdd ? 1 : 0, 1);
            dueOfDawdle(x, n, 2, twices[n], twices[n] == 0 ? 1 : 2);
        }
        dueOfDawdle(x, 0, 0, 1, 1);
        // 4 of the 7 stretches of place 0 go to 1, where 4 of 5 come back, and 3 to 2, where 3 of 4 do.
        x = Check.withNet("n3;s01100;s01100;s01100;s01100;s02100;s02100;s02100;s12100");
        dueOfDawdle(x, 1, 1, 4, 7);
        dueOfDawdle(x, 2, 0, 4 * 4 * 4 + 3 * 3 * 5, 7 * 5 * 4);
        dueOfDawdle(x, 2, 1, 3, 28);
        dueOfDawdle(x, 2, 2, 4, 35);
        c.due("n -1", x.dawdle(-1, 0, 0), LOST);
        c.due("n 6", x.dawdle(6, 0, 0), LOST);
    }

    // ---- promises 15 to 18

    private static void reading() {
        c.sentence("A READING: its number. UNKNOWN: STRETCH; FULL.");
        HomeByFour x = Check.withNet(Check.FOUR);
        for (int k : new int[] {-1, 5, 9, MIN, MAX}) {
            c.due("reading of " + k, x.reading(k, true), UNKNOWN);
        }
        for (int r = 0; r < 8; r++) {
            c.due("its number", x.reading(4, true), r);
        }
        c.due("full", x.reading(4, true), FULL);
        c.due("full, not so", x.reading(0, false), FULL);
        c.due("UNKNOWN ahead of FULL", x.reading(5, true), UNKNOWN);
        x.back(1);
        c.due("one more again", x.reading(0, false), 7);
        c.due("full again", x.reading(0, false), FULL);
        c.due("no net", new HomeByFour().reading(0, true), UNKNOWN);
    }

    private static void back() {
        c.sentence("The last k READINGS (0 .. as many as there are) are taken back: how many are left. OUTSIDE.");
        HomeByFour x = new HomeByFour();
        c.due("none of none, no net", x.back(0), 0);
        c.due("one of none, no net", x.back(1), OUTSIDE);
        Check.netOf(x, "n2;m01100;m01100;m01100");
        c.due("none of none", x.back(0), 0);
        c.due("one of none", x.back(1), OUTSIDE);
        x.reading(0, true);
        x.reading(1, false);
        x.reading(2, true);
        for (int k : new int[] {-1, 4, 8, MIN, MAX}) {
            c.due("back " + k, x.back(k), OUTSIDE);
        }
        c.due("none", x.back(0), 3);
        c.due("three still", x.many(4), 3);
        dueOfTrails(x, 1, 200, 0);
        c.due("the last one", x.back(1), 2);
        // What is left is the first two: mud of 0, none of 1.
        dueOfTrails(x, 1, 200, 1, 0);
        dueOfTrails(x, 3, 200, 1 + 7, 0);
        c.due("the last two", x.back(2), 0);
        dueOfTrails(x, 1, 200, 3, 0);
        for (int r = 0; r < 8; r++) {
            x.reading(0, true);
        }
        c.due("nine of eight", x.back(9), OUTSIDE);
        c.due("all eight", x.back(8), 0);
        c.due("none are left", x.many(4), 0);
    }

    private static void trails() {
        c.sentence("TRAILS of n: how many (q -1), the q-th STRETCH of the first one (0 on); NONE: there are none,"
            + " fewer.");
        HomeByFour x = Check.withNet(Check.FOUR);
        dueOfTrails(x, 5, 6, 0);
        dueOfTrails(x, 1, 7, 0);
        dueOfTrails(x, 2, 7, 1, 1, 4);
        dueOfTrails(x, 3, 200, 7, 0);
        dueOfTrails(x, 5, 200, 45, 0);
        x.reading(2, true);
        x.reading(4, false);
        dueOfTrails(x, 2, 200, 0);
        dueOfTrails(x, 3, 200, 1, 1, 2, 3);
        x.reading(1, false);
        dueOfTrails(x, 4, 200, 0);
        dueOfTrails(x, 5, 200, 1, 0, 3, 2, 2, 3);
    }

    private static void trailsRefusals() {
        c.sentence("OUTSIDE: n (1 .. 5), t (0 .. 200), q (-1 .. 4); STATE: there is no NET.");
        HomeByFour x = Check.withNet(chain(6));
        HomeByFour none = new HomeByFour();
        for (int n : new int[] {0, 6, -1, MIN, MAX}) {
            c.due("n " + n, x.trails(n, 0, 0), OUTSIDE);
            c.due("n " + n + ", no net", none.trails(n, 0, 0), OUTSIDE);
        }
        for (int t : new int[] {-1, 201, MIN, MAX}) {
            c.due("t " + t, x.trails(1, t, 0), OUTSIDE);
            c.due("t " + t + ", no net", none.trails(1, t, 0), OUTSIDE);
        }
        for (int q : new int[] {-2, 5, MIN, MAX}) {
            c.due("q " + q, x.trails(1, 0, q), OUTSIDE);
            c.due("q " + q + ", no net", none.trails(1, 0, q), OUTSIDE);
        }
        c.due("the least, no net", none.trails(1, 0, -1), STATE);
        c.due("the most, no net", none.trails(5, 200, 4), STATE);
        c.due("the least", x.trails(1, 0, -1), 0);
        c.due("the most", x.trails(5, 200, 4), 4);
    }

    private static void dawdle() {
        c.sentence("DAWDLING: how likely one is at a PLACE (which 0 the upper, 1 the lower number).");
        HomeByFour x = Check.withNet(Check.FOUR);
        long[][] uppers = {{1, 0, 0, 0}, {0, 1, 0, 1}, {1, 1, 1, 1}, {1, 7, 1, 7}, {7, 13, 7, 13}, {13, 55, 13, 55}};
        long[][] lowers = {{1, 1, 1, 1}, {1, 2, 1, 2}, {3, 6, 3, 6}, {9, 18, 9, 18}, {27, 54, 27, 54},
            {81, 162, 81, 162}};
        for (int n = 0; n <= 5; n++) {
            for (int place = 0; place < 4; place++) {
                dueOfDawdle(x, n, place, uppers[n][place], lowers[n][place]);
            }
        }
    }

    private static void dawdleLost() {
        c.sentence("LOST: UNKNOWN: PLACE; OUTSIDE: n (0 .. 5), which.");
        HomeByFour x = Check.withNet("n7;s06100");
        for (int place : new int[] {-1, 7, NONE, MIN, MAX}) {
            c.due("place " + place, x.dawdle(1, place, 0), LOST);
        }
        for (int n : new int[] {-1, 6, MIN, MAX}) {
            c.due("n " + n, x.dawdle(n, 0, 0), LOST);
        }
        for (int which : new int[] {-1, 2, MIN, MAX}) {
            c.due("which " + which, x.dawdle(1, 0, which), LOST);
        }
        c.due("the last place, the most", x.dawdle(5, 6, 0), 1);
        c.due("the first place, the least", x.dawdle(0, 0, 1), 1);
        c.due("no net", new HomeByFour().dawdle(0, 0, 0), LOST);
    }
}
