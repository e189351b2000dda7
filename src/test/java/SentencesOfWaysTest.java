/** The sentences of the quickest, the best and the safest: terms 3, and promises 10 to 14. */
public final class SentencesOfWaysTest extends Sentences {
    public static void main(String[] args) {
        c.run(
            () -> leastMinutes(),
            () -> leastMinutesVia(),
            () -> endAtHome(),
            () -> atMostFive(),
            () -> mostJoy(),
            () -> mostSafe(),
            () -> fewestThenFirst(),
            () -> fewestThenFirstOfSafest(),
            () -> worthOfStretch(),
            () -> quickest(),
            () -> via(),
            () -> best(),
            () -> bestRefusals(),
            () -> safest(),
            () -> safestRefusals(),
            () -> worth());
        c.end();
    }

    // ---- terms 3

    private static void leastMinutes() {
        c.sentence("QUICKEST to a PLACE: the least MINUTES from the SCHOOL");
        HomeByFour x = Check.withNet("n4;s03900;s01200;s21200;s23200;s01300");
        int[] least = {0, 2, 4, 6};
        for (int place = 0; place < 4; place++) {
            c.due("quickest to " + place, x.quickest(place), least[place]);
        }
        x.close(1, true);
        c.due("the other one beside it", x.quickest(1), 3);
        c.due("more stretches, fewer minutes", x.quickest(3), 7);
        x.friend(2);
        c.due("slower with a friend", x.quickest(3), 4 + 3 + 2);
        x.friend(3);
        c.due("slower all the way", x.quickest(3), 10);
        x.friend(NONE);
        x.close(4, true);
        c.due("against the order of places", x.quickest(1), 9 + 2 + 2);
        x = Check.withNet(chain(7));
        for (int place = 0; place < 7; place++) {
            c.due("the row of seven, to " + place, x.quickest(place), place);
        }
        x = Check.withNet("n7;s56100;s45100;s34100;s23100;s12100;s01100");
        c.due("the row of seven, told from its end", x.quickest(6), 6);
        x = Check.withNet("n7;p56900;p45900;p34900;p23900;p12900;p01900");
        c.due("the longest", x.quickest(6), 120);
        x.friend(6);
        c.due("the longest, shared", x.quickest(6), 126);
        x = Check.withNet("n7;s06200;s65300;s45100");
        c.due("by the last place, on", x.quickest(5), 5);
        c.due("by the last place, further on", x.quickest(4), 6);
    }

    private static void leastMinutesVia() {
        c.sentence("VIA a PLACE: the least MINUTES from there to it and HOME.");
        HomeByFour x = Check.withNet(Check.FOUR);
        int[] least = {7, 7, 11, 7};
        for (int place = 0; place < 4; place++) {
            c.due("via " + place, x.via(place), least[place]);
        }
        x = Check.withNet("n3;s02300;s21400");
        c.due("by home, there and back", x.via(1), 3 + 4 + 4);
        c.due("via the school", x.via(0), 3);
        c.due("via home", x.via(2), 3);
        x = Check.withNet("n3;s02300;s01400");
        c.due("by the school, there and back", x.via(1), 4 + 4 + 3);
    }

    private static void endAtHome() {
        c.sentence("All WALKS that end at HOME (perhaps not for the first time), of n STRETCHES at most (1 .. 5)");
        HomeByFour x = Check.withNet("n3;s02110;s21120;s12130");
        dueOfBest(x, 1, 1, 0);
        dueOfBest(x, 2, 1, 0);
        dueOfBest(x, 3, 6, 0, 1, 2);
        x = Check.withNet("n3;s01190;s02100");
        dueOfBest(x, 2, 0, 1);
        dueOfBest(x, 3, 9, 0, 0, 1);
        x = Check.withNet("n3;s01190");
        dueOfNoBest(x, 5);
        dueOfSafest(x, 5, NONE);
    }

    private static void atMostFive() {
        c.sentence("of n STRETCHES at most (1 .. 5)");
        for (int places = 2; places <= 7; places++) {
            HomeByFour x = Check.withNet(chain(places));
            for (int n = 1; n <= 5; n++) {
                boolean is = n >= places - 1;
                c.due("best of " + n + " in " + places, x.best(n, -1), is ? 100000 : NONE);
                c.due("safest of " + n + " in " + places, x.safest(n, -1), is ? 100000 : NONE);
                c.due("trails of " + n + " in " + places, x.trails(n, 200, -1) > 0 ? 1 : 0, is ? 1 : 0);
            }
        }
        HomeByFour x = Check.withNet(chain(6));
        dueOfBest(x, 5, 0, 0, 1, 2, 3, 4);
        dueOfSafest(x, 5, 100000, 0, 1, 2, 3, 4);
        c.due("n 0", x.best(0, -1), OUTSIDE);
        c.due("n 6", x.best(6, -1), OUTSIDE);
    }

    private static void mostJoy() {
        c.sentence("BEST: the one of the most JOY");
        HomeByFour x = Check.withNet("n3;s02900;s01230;s12240;s01650");
        dueOfBest(x, 1, 0, 0);
        dueOfBest(x, 2, 9, 3, 2);
        x.due(4);
        dueOfBest(x, 2, 7, 1, 2);
        x.law(2);
        x.due(0);
        x.close(2, true);
        dueOfBest(x, 2, -81, 0);
        x.law(1);
        dueOfBest(x, 2, -12, 0);
        x = Check.withNet("n2;p01900;p01990");
        x.law(2);
        x.due(0);
        x.friend(1);
        dueOfBest(x, 5, 9 - 21 * 21, 1);
    }

    private static void mostSafe() {
        c.sentence("SAFEST: the one that is the most SAFE");
        HomeByFour x = Check.withNet("n3;s02105;s01103;s12103;s12102");
        dueOfSafest(x, 1, 50000, 0);
        dueOfSafest(x, 2, 56000, 1, 3);
        x.close(3, true);
        dueOfSafest(x, 2, 50000, 0);
        x.close(0, true);
        dueOfSafest(x, 2, 49000, 1, 2);
        dueOfSafest(x, 1, NONE);
        x.friend(1);
        dueOfSafest(x, 2, 70000, 1, 2);
        x.friend(2);
        dueOfSafest(x, 2, 100000, 1, 2);
        x = Check.withNet("n6;s01109;s12109;s23109;s34109;s45109");
        dueOfSafest(x, 5, 1, 0, 1, 2, 3, 4);
        x = Check.withNet("n6;s01101;s12101;s23101;s34101;s45101");
        dueOfSafest(x, 5, 59049, 0, 1, 2, 3, 4);
    }

    private static final String OF_SEVERAL = "of several the one of the fewest STRETCHES, then the first as a row.";

    private static void fewestThenFirst() {
        c.sentence(OF_SEVERAL);
        HomeByFour x = Check.withNet("n3;s01120;s12130;s02150;s02150");
        c.due("joys alike", x.best(2, -1), 100005);
        dueOfBest(x, 2, 5, 2);
        x.close(2, true);
        dueOfBest(x, 2, 5, 3);
        x = Check.withNet("n3;s12110;s12110;s01110;s01110");
        dueOfBest(x, 2, 2, 2, 0);
        x.close(2, true);
        dueOfBest(x, 2, 2, 3, 0);
        x.close(0, true);
        dueOfBest(x, 2, 2, 3, 1);
        x = Check.withNet("n2;s01100;s01100");
        dueOfBest(x, 5, 0, 0);
        x = Check.withNet("n2;s01110;s01110;s01110");
        dueOfBest(x, 5, 3, 0, 1, 2);
    }

    private static void fewestThenFirstOfSafest() {
        c.sentence("SAFEST: the one that is the most SAFE; " + OF_SEVERAL);
        HomeByFour x = Check.withNet("n3;s01100;s12102;s02102;s02102");
        dueOfSafest(x, 2, 80000, 2);
        x.close(2, true);
        dueOfSafest(x, 2, 80000, 3);
        x.close(3, true);
        dueOfSafest(x, 5, 80000, 0, 1);
        x = Check.withNet("n3;s12101;s12102;s01102;s01101");
        dueOfSafest(x, 2, 81000, 3, 0);
        x.close(0, true);
        dueOfSafest(x, 2, 72000, 3, 1);
        x = Check.withNet("n3;s12102;s12101;s01101;s01102;s12101;s01101");
        dueOfSafest(x, 2, 81000, 2, 1);
        x = Check.withNet("n2;s01100;s01100");
        dueOfSafest(x, 5, 100000, 0);
    }

    private static void worthOfStretch() {
        c.sentence("WORTH of a STRETCH: how much less JOY the BEST of 4 has, if it is CLOSED.");
        // By rows of at most 3 the first stretch would be worth 0, by rows of 5 it would be worth 2.
        HomeByFour x = Check.withNet("n5;s01110;s12110;s23110;s34110;s04100");
        c.due("worth of the first", x.worth(0), 3);
        c.due("of one that no best walk needs", x.worth(4), 0);
        x = Check.withNet("n2;s01350;s01230");
        c.due("of the better one", x.worth(0), 8 - 3);
        c.due("of the other one", x.worth(1), 8 - 5);
        x.due(0);
        x.law(2);
        c.due("of the quicker one", x.worth(1), (3 - 4) - (5 - 9));
        c.due("of the slower one", x.worth(0), 0);
    }

    // ---- promises 10 to 14

    private static void quickest() {
        c.sentence("QUICKEST to a PLACE; NONE: one can't. UNKNOWN.");
        HomeByFour x = Check.withNet("n7;s01900;s65100");
        int[] least = {0, 9, NONE, NONE, NONE, NONE, NONE};
        for (int place = 0; place < 7; place++) {
            c.due("quickest to " + place, x.quickest(place), least[place]);
        }
        x.close(0, true);
        c.due("it is closed", x.quickest(1), NONE);
        c.due("to the school one can", x.quickest(0), 0);
        for (int place : new int[] {-1, 7, NONE, MIN, MAX}) {
            c.due("quickest to " + place, x.quickest(place), UNKNOWN);
        }
        c.due("no net", new HomeByFour().quickest(0), UNKNOWN);
    }

    private static void via() {
        c.sentence("VIA a PLACE; NONE: one can't. UNKNOWN.");
        HomeByFour x = Check.withNet("n4;s01900;s23100;s13200");
        int[] least = {11, 11, 13, 11};
        for (int place = 0; place < 4; place++) {
            c.due("via " + place, x.via(place), least[place]);
        }
        x.close(1, true);
        c.due("one can't go there", x.via(2), NONE);
        c.due("but home", x.via(3), 11);
        x.close(1, false);
        x.close(2, true);
        for (int place = 0; place < 4; place++) {
            c.due("one can't go home via " + place, x.via(place), NONE);
        }
        for (int place : new int[] {-1, 4, NONE, MIN, MAX}) {
            c.due("via " + place, x.via(place), UNKNOWN);
        }
        c.due("no net", new HomeByFour().via(0), UNKNOWN);
    }

    private static final String OUTSIDE_WORDS = "OUTSIDE: n (1 .. 5), q (-1 .. 4); STATE: there is no NET.";

    private static void best() {
        c.sentence("BEST of n: its JOY and 100000 (q -1), its q-th STRETCH (0 on); NONE: there is no such WALK, there"
            + " are fewer.");
        HomeByFour x = Check.withNet(Check.FOUR);
        dueOfBest(x, 1, 1, 0);
        dueOfBest(x, 2, 11, 1, 4);
        dueOfBest(x, 3, 15, 1, 2, 3);
        dueOfBest(x, 4, 16, 1, 2, 2, 4);
        dueOfBest(x, 5, 17, 1, 2, 3, 4, 4);
        x.close(0, true);
        dueOfNoBest(x, 1);
        dueOfBest(x, 2, 11, 1, 4);
        x.close(1, true);
        for (int n = 1; n <= 5; n++) {
            dueOfNoBest(x, n);
        }
    }

    private static void bestRefusals() {
        c.sentence("best", OUTSIDE_WORDS);
        HomeByFour x = Check.withNet(chain(6));
        HomeByFour none = new HomeByFour();
        for (int n : new int[] {0, 6, -1, MIN, MAX}) {
            c.due("best, n " + n, x.best(n, -1), OUTSIDE);
            c.due("best, n " + n + ", no net", none.best(n, -1), OUTSIDE);
        }
        for (int q : new int[] {-2, 5, MIN, MAX}) {
            c.due("best, q " + q, x.best(5, q), OUTSIDE);
            c.due("best, q " + q + ", no net", none.best(5, q), OUTSIDE);
        }
        for (int n = 1; n <= 5; n++) {
            c.due("best, n " + n + ", no net", none.best(n, n - 2), STATE);
        }
        c.due("n 1, q -1", x.best(1, -1), NONE);
        c.due("n 5, q 4", x.best(5, 4), 4);
        c.due("n 1, q 4", x.best(1, 4), NONE);
    }

    private static void safest() {
        c.sentence("SAFEST of n: how SAFE, in parts of 100000 (q -1), its q-th STRETCH (0 on); NONE: there is no such"
            + " WALK, there are fewer.");
        HomeByFour x = Check.withNet(Check.FOUR);
        dueOfSafest(x, 1, 60000, 0);
        for (int n = 2; n <= 5; n++) {
            dueOfSafest(x, n, 90000, 1, 4);
        }
        x.close(4, true);
        dueOfSafest(x, 2, 60000, 0);
        dueOfSafest(x, 3, 70000, 1, 2, 3);
        x.close(0, true);
        dueOfSafest(x, 2, NONE);
        x.close(1, true);
        for (int n = 1; n <= 5; n++) {
            dueOfSafest(x, n, NONE);
        }
    }

    private static void safestRefusals() {
        c.sentence("safest", OUTSIDE_WORDS);
        HomeByFour x = Check.withNet(chain(6));
        HomeByFour none = new HomeByFour();
        for (int n : new int[] {0, 6, -1, MIN, MAX}) {
            c.due("safest, n " + n, x.safest(n, -1), OUTSIDE);
            c.due("safest, n " + n + ", no net", none.safest(n, -1), OUTSIDE);
        }
        for (int q : new int[] {-2, 5, MIN, MAX}) {
            c.due("safest, q " + q, x.safest(5, q), OUTSIDE);
            c.due("safest, q " + q + ", no net", none.safest(5, q), OUTSIDE);
        }
        for (int n = 1; n <= 5; n++) {
            c.due("safest, n " + n + ", no net", none.safest(n, n - 2), STATE);
        }
        c.due("n 1, q -1", x.safest(1, -1), NONE);
        c.due("n 5, q 4", x.safest(5, 4), 4);
        c.due("n 1, q 4", x.safest(1, 4), NONE);
    }

    private static void worth() {
        c.sentence("WORTH; NONE: there is no such WALK now, or without it. UNKNOWN.");
        HomeByFour x = Check.withNet("n3;s01110;s12110;s02100");
        c.due("none is needed", x.worth(2), 0);
        c.due("the other way is left", x.worth(0), 1);
        c.due("and open as it was", x.ofStretch(0, 7), 0);
        x.close(2, true);
        c.due("of one that is closed", x.worth(2), 0);
        c.due("and closed as it was", x.ofStretch(2, 7), 1);
        c.due("no walk without it", x.worth(0), NONE);
        x.close(0, true);
        c.due("no walk now", x.worth(1), NONE);
        c.due("no walk now, of a closed one", x.worth(0), NONE);
        x = Check.withNet(chain(6));
        c.due("no walk of 4", x.worth(0), NONE);
        x = Check.withNet(chain(5) + ";s03100");
        c.due("a walk of 4, and one of 2", x.worth(0), 0);
        c.due("no walk of 4 without it", x.worth(3), NONE);
        for (int k : new int[] {-1, 5, 9, MIN, MAX}) {
            c.due("worth of " + k, x.worth(k), UNKNOWN);
        }
        c.due("no net", new HomeByFour().worth(0), UNKNOWN);
    }
}
