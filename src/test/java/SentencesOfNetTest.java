/** The sentences of the net: terms 1, and promises 1 to 7. */
public final class SentencesOfNetTest extends Sentences {
    private static final String EIGHT = "n3;s01100;m12299;p20350;s10401;m21510;p02999;s01899;m12777";

    public static void main(String[] args) {
        c.run(
            () -> placesDigit(),
            () -> schoolAndHome(),
            () -> howManyStretches(),
            () -> partBegins(),
            () -> letters(),
            () -> twoPlaces(),
            () -> digitsOfPart(),
            () -> firstFault(),
            () -> samePlaceTwice(),
            () -> tenthStretch(),
            () -> endsTooSoon(),
            () -> codes(),
            () -> kinds(),
            () -> allAnew(),
            () -> takes(),
            () -> shared(),
            () -> sharedHasNoDanger(),
            () -> newObject(),
            () -> netAnswers(),
            () -> netNotTaken(),
            () -> netRefusals(),
            () -> ofStretch(),
            () -> due(),
            () -> law(),
            () -> friend(),
            () -> close());
        c.end();
    }

    // ---- terms 1

    private static void placesDigit() {
        c.sentence("n, a digit 2 .. 7 (PLACES");
        for (int code = -128; code < 128; code++) {
            HomeByFour x = new HomeByFour();
            Check.write(x, 0, 0, "n2;s01100".chars().toArray());
            x.put(0, 1, code);
            boolean is = code >= '2' && code <= '7';
            c.due("net of n and code " + code, x.net(0, 0, 0, 9), is ? 1 : -101);
            c.due("places by code " + code, x.many(0), is ? code - '0' : 0);
        }
        c.due("n alone", netOf("n"), -101);
        c.due("n and another digit", netOf("n22;s01100"), -102);
        c.due("n missing", netOf("2;s01100"), -100);
    }

    private static void schoolAndHome() {
        c.sentence("numbered from 0 on: 0 the SCHOOL, the last one HOME");
        for (int places = 2; places <= 7; places++) {
            int home = places - 1;
            HomeByFour x = Check.withNet("n" + places + ";s0" + home + "300;s" + home + "0200");
            c.due("at the school", x.quickest(0), 0);
            c.due("a walk begins there", walked(x, 0), 0);
            c.due("and dawdling", x.dawdle(0, 0, 0), 1);
            c.due("home is known", x.quickest(home), 2);
            c.due("and nothing beyond it", x.quickest(places), UNKNOWN);
            c.due("the walk home", walked(x, 0, 0), home);
            dueOfBest(x, 1, 0, 0);
            c.due("via the school", x.via(0), 2);
        }
        HomeByFour x = Check.withNet("n4;s01190;s02190");
        dueOfNoBest(x, 5);
        c.due("no way to the last", x.via(0), NONE);
    }

    private static void howManyStretches() {
        c.sentence("then 1 to 9 STRETCHES, numbered from 0 on");
        c.due("none", netOf("n2"), -102);
        for (int many = 1; many <= 8; many++) {
            HomeByFour x = Check.withNet(EIGHT.substring(0, 2 + 7 * many));
            c.due("net of " + many, x.many(1), many);
            c.due("the first", x.ofStretch(0, 3), 1);
            c.due("the last", x.ofStretch(many - 1, 3), EIGHT.charAt(7 * many - 1) - '0');
            c.due("one more", x.ofStretch(many, 3), UNKNOWN);
        }
        HomeByFour x = new HomeByFour();
        c.due("a row that nine need", x.sheet(0, 0, 2 + 7 * 9), OUTSIDE);
        c.due("as much of nine as a row holds", Check.netOf(x, EIGHT + ";p"), -160);
    }

    private static void dueOfCode(int at, String fits) {
        for (int code = -128; code < 128; code++) {
            HomeByFour x = new HomeByFour();
            Check.write(x, 0, 0, "n3;s01100;m02299".chars().toArray());
            x.put(0, at, code);
            boolean is = code >= 0 && fits.indexOf(code) >= 0;
            c.due("net with code " + code + " at " + at, x.net(0, 0, 0, 16), is ? 2 : -100 - at);
        }
    }

    private static void partBegins() {
        c.sentence("each: ; and a letter");
        dueOfCode(0, "n");
        dueOfCode(2, ";");
        dueOfCode(9, ";");
    }

    private static void letters() {
        c.sentence("n 110, s 115, m 109, p 112, ; 59, digits 48 .. 57.");
        dueOfCode(3, "smp");
        dueOfCode(10, "smp");
        HomeByFour x = new HomeByFour();
        Check.write(x, 0, 0, 110, 50, 59, 112, 49, 48, 57, 57, 48, 59, 109, 48, 49, 49, 48, 57,
            59, 115, 48, 49, 50, 51, 52);
        c.due("net by numbers", x.net(0, 0, 0, 23), 3);
        int[][] rows = {{2, 1, 0, 9, 9, 0}, {1, 0, 1, 1, 0, 9}, {0, 0, 1, 2, 3, 4}};
        for (int k = 0; k < 3; k++) {
            for (int what = 0; what < 6; what++) {
                c.due("ofStretch(" + k + ", " + what + ")", x.ofStretch(k, what), rows[k][what]);
            }
        }
    }

    private static void twoPlaces() {
        c.sentence("two digits (PLACES, one and another one)");
        for (int places = 2; places <= 7; places++) {
            for (char one = '/'; one <= ':'; one++) {
                for (char other = '/'; other <= ':'; other++) {
                    int want = one < '0' || one >= '0' + places ? -104
                        : other < '0' || other >= '0' + places || other == one ? -105 : 1;
                    String text = "n" + places + ";s" + one + other + "100";
                    c.due("net of " + text, netOf(text), want);
                }
            }
        }
    }

    private static void digitsOfPart() {
        c.sentence("a digit 1 .. 9 (LONG)");
        dueOfCode(6, "123456789");
        dueOfCode(13, "123456789");
        c.sentence("a digit 0 .. 9 (SIGHTS)");
        dueOfCode(7, "0123456789");
        dueOfCode(14, "0123456789");
        c.sentence("a digit 0 .. 9 (DANGER)");
        dueOfCode(8, "0123456789");
        dueOfCode(15, "0123456789");
        c.due("one digit more", netOf("n2;s011000"), -109);
    }

    private static void firstFault() {
        c.sentence("FIRST FAULT: the place (from 0 on) of the first code with which no TEXT goes on");
        String text = "n3;s01100;m12299";
        for (int p = 0; p < text.length(); p++) {
            String wrong = text.substring(0, p) + "x" + text.substring(p + 1);
            c.due("one at " + p, netOf(wrong), -100 - p);
            c.due("one at " + p + " and behind it", netOf(text.substring(0, p) + "xxxx"), -100 - p);
        }
        c.due("one behind a text", netOf(text + "x"), -116);
        HomeByFour x = new HomeByFour();
        Check.write(x, 0, 0, ("n3;s" + "n3;x").chars().toArray());
        c.due("from 0 on in the text, not in the row", x.net(0, 0, 4, 4), -103);
    }

    private static void samePlaceTwice() {
        c.sentence("a second PLACE that is the first one, too");
        for (int places = 2; places <= 7; places++) {
            for (int p = 0; p < places; p++) {
                c.due("" + p + p, netOf("n" + places + ";m" + p + p + "100"), -105);
                c.due("cut behind it", netOf("n" + places + ";m" + p + p), -105);
                c.due("in a later one", netOf("n" + places + ";m01100;p" + p + p), -112);
            }
        }
    }

    private static void tenthStretch() {
        // No sheet has the 66 cells for it: 60 codes are the most that a text can be told in.
        c.sentence("the ; of a tenth STRETCH");
        HomeByFour x = new HomeByFour();
        c.due("a row of 66", x.sheet(0, 0, 66), OUTSIDE);
        c.due("the ; of a ninth is none", Check.netOf(x, EIGHT + ";"), -159);
        c.due("but another code is", Check.netOf(x, EIGHT + "s"), -158);
    }

    private static void endsTooSoon() {
        c.sentence("how many codes there are, if it just ends too soon");
        for (int n = 0; n <= EIGHT.length(); n++) {
            boolean isWhole = n > 2 && (n - 2) % 7 == 0;
            c.due("net of the first " + n, netOf(EIGHT.substring(0, n)), isWhole ? (n - 2) / 7 : -100 - n);
        }
        HomeByFour x = new HomeByFour();
        Check.write(x, 0, 0, EIGHT.chars().toArray());
        c.due("none at the end", x.net(0, 0, 58, 0), -100);
        c.due("a text that goes on in the row", x.net(0, 0, 0, 57), -157);
    }

    private static void codes() {
        c.sentence("(Codes: n 110");
        String text = "n3;s01100";
        for (int lane = 0; lane < 3; lane++) {
            for (int p = 0; p < text.length(); p++) {
                for (int more : new int[] {256, -256, 65536, -65536}) {
                    HomeByFour x = new HomeByFour();
                    Check.write(x, 0, lane, text.chars().toArray());
                    x.put(0, p, text.charAt(p) + more);
                    boolean isCut = lane == 0 || lane == 1 && Math.abs(more) == 65536;
                    c.due("lane " + lane + ", " + more + " more at " + p, x.net(0, lane, 0, 9), isCut ? 1 : -100 - p);
                }
            }
        }
        c.due("N", netOf("N3;s01100"), -100);
        c.due("S", netOf("n3;S01100"), -103);
        c.due("a space", netOf(" n3;s01100"), -100);
    }

    private static void kinds() {
        c.sentence("Kinds: 0 STRETCH (s); 1 MUDDY (m), a STRETCH; 2 STEEP (p), a MUDDY.");
        HomeByFour x = Check.withNet("n2;s01100;m01100;p01100");
        int[][] fits = {{1, CAST, CAST}, {1, 1, CAST}, {1, 1, 1}};
        for (int k = 0; k < 3; k++) {
            c.due("kind of " + k, x.ofStretch(k, 0), k);
            for (int kind = 0; kind < 3; kind++) {
                c.due("as(" + k + ", " + kind + ")", x.as(k, kind), fits[k][kind]);
            }
        }
    }

    /** A second net on an object where nothing was as at first. */
    private static HomeByFour anew() {
        HomeByFour x = State.full();
        Check.netOf(x, Check.FOUR);
        return x;
    }

    private static void allAnew() {
        c.sentence("A TEXT that is taken makes all anew: one is DUE behind 45 MINUTES");
        c.due("due was", State.full().many(2), 7);
        c.due("due", anew().many(2), 45);
        c.due("due, asked by due", anew().due(0), 45);
        c.sentence("the LAW is 0, there is no FRIEND, nothing is CLOSED, no READINGS.");
        c.due("law was", State.full().many(3), 2);
        c.due("law", anew().many(3), 0);
        c.due("friend was", State.full().friend(NONE), 1);
        c.due("friend", anew().friend(NONE), NONE);
        c.due("minutes, as there is no friend", anew().ofStretch(1, 6), 2);
        c.due("closed was", State.full().ofStretch(3, 7), 1);
        c.due("closed", anew().ofStretch(3, 7), 0);
        c.due("readings were", State.full().many(4), 2);
        c.due("readings", anew().many(4), 0);
        c.due("trails, as there are no readings", anew().trails(3, 200, -1), 7);
        c.due("a reading's number", anew().reading(0, true), 0);
        HomeByFour x = anew();
        c.due("fewer places and stretches", Check.netOf(x, "n2;p01100"), 1);
        c.due("places", x.many(0), 2);
        c.due("stretches", x.many(1), 1);
        c.due("the former second one", x.ofStretch(1, 0), UNKNOWN);
        c.due("the former third place", x.quickest(2), UNKNOWN);
        c.due("the new kind", x.ofStretch(0, 0), 2);
        c.due("more of them", Check.netOf(x, Check.FOUR), 5);
        c.due("the second one", x.ofStretch(1, 0), 1);
    }

    private static void takes() {
        c.sentence("a STRETCH as long as it is LONG; a MUDDY one 1 more; a STEEP one twice what a MUDDY one does.");
        for (int length = 1; length <= 9; length++) {
            HomeByFour x = Check.withNet("n2;s01" + length + "00;m01" + length + "00;p01" + length + "00");
            c.due("a stretch takes", x.ofStretch(0, 6), length);
            c.due("a muddy one takes", x.ofStretch(1, 6), length + 1);
            c.due("a steep one takes", x.ofStretch(2, 6), 2 * (length + 1));
            x.friend(1);
            c.due("a shared stretch takes", x.ofStretch(0, 6), length + 1);
            c.due("a shared muddy one takes", x.ofStretch(1, 6), length + 2);
            c.due("a shared steep one takes", x.ofStretch(2, 6), 2 * (length + 1) + 1);
        }
    }

    private static void shared() {
        c.sentence("Of a STRETCH that is SHARED (with a FRIEND as far as PLACE m: both its PLACES are m or less)"
            + " 1 more in any case");
        for (int one = 0; one < 7; one++) {
            for (int other = 0; other < 7; other++) {
                if (one != other) {
                    HomeByFour x = Check.withNet("n7;s" + one + other + "500");
                    for (int m = 0; m < 7; m++) {
                        x.friend(m);
                        boolean isShared = one <= m && other <= m;
                        c.due("" + one + other + " as far as " + m, x.ofStretch(0, 6), isShared ? 6 : 5);
                    }
                    x.friend(NONE);
                    c.due("" + one + other + " alone", x.ofStretch(0, 6), 5);
                }
            }
        }
    }

    private static void sharedHasNoDanger() {
        c.sentence("and it has no DANGER.");
        HomeByFour x = Check.withNet("n3;s01109;m12105;p02101");
        int[][] tenths = {{1, 5, 9}, {1, 5, 9}, {10, 5, 9}, {10, 10, 10}};
        for (int m = -1; m < 3; m++) {
            x.friend(m < 0 ? NONE : m);
            int[] t = tenths[m + 1];
            dueOfSafe(x, t[0] == 10 ? 1 : t[0], t[0] == 10 ? 1 : 10, 0);
            c.due("safest by way of 1, or not", x.safest(1, -1), t[2] * 10000);
            x.close(2, true);
            c.due("safest by way of 1", x.safest(2, -1), t[0] * t[1] * 1000);
            x.close(2, false);
            c.due("danger by the text", x.ofStretch(0, 5), 9);
        }
    }

    // ---- promises 1 to 7

    private static void newObject() {
        c.sentence("`HomeByFour()`: No NET (no PLACES, STRETCHES), SHEETS have nothing.");
        HomeByFour x = new HomeByFour();
        c.due("places", x.many(0), 0);
        c.due("stretches", x.many(1), 0);
        c.due("place 0", x.quickest(0), UNKNOWN);
        c.due("stretch 0", x.tell(0), UNKNOWN);
        c.due("no net", x.due(45), STATE);
        for (int k = 0; k < 4; k++) {
            c.due("sheet " + k + " has nothing", x.put(k, 0, 0), NULL);
            c.due("lose " + k, x.lose(k), 0);
        }
        HomeByFour other = Check.withNet(Check.FOUR);
        c.due("another one", x.many(1) + other.many(1), 5);
    }

    private static void netAnswers() {
        c.sentence("A NET by a TEXT of n cells of a SHEET from i on, taken as a row of a LANE: how many STRETCHES");
        int[] text = ("n2;" + EIGHT).substring(0, 60).chars().toArray();
        for (int lane = 0; lane < 3; lane++) {
            for (int sheet = 0; sheet < 4; sheet++) {
                HomeByFour x = new HomeByFour();
                Check.write(x, sheet, lane, text);
                c.due("from 3 on, the whole rest", x.net(sheet, lane, 3, 57), -157);
                c.due("from 3 on", x.net(sheet, lane, 3, 51), 7);
                c.due("places", x.many(0), 3);
                c.due("one", x.net(sheet, lane, 3, 9), 1);
                c.due("from 0 on", x.net(sheet, lane, 0, 9), -103);
                c.due("it stays", x.many(1), 1);
            }
        }
    }

    private static void netNotTaken() {
        c.sentence("-100 less the FIRST FAULT.");
        String[] texts = {"", "x", "n", "n9", "n3", "n3;", "n3;s", "n3;s0", "n3;s00", "n3;s01", "n3;s010", "n3;s011",
            "n3;s01100;", "n3;s01100x"};
        int[] faults = {0, 0, 1, 1, 2, 3, 4, 5, 5, 6, 6, 7, 10, 9};
        for (int k = 0; k < texts.length; k++) {
            HomeByFour x = State.full();
            State.fail(x, 4);
            c.due("net of " + texts[k], Check.netOf(x, texts[k]), -100 - faults[k]);
            c.due("it is no FAULT", x.fault(), 0);
            HomeByFour same = State.full();
            Check.write(same, 0, 0, texts[k].chars().toArray());
            c.dueTrue("all but the sheet stays", State.seen(x).equals(State.seen(same)));
        }
    }

    private static void netRefusals() {
        c.sentence("UNKNOWN; OUTSIDE: lane; CAST (nothing is no CAST); NULL; SIZE: n below 0; INDEX; -100 less it.");
        HomeByFour x = State.bare();
        for (int k : new int[] {-1, 4, MIN, MAX}) {
            c.due("sheet " + k, x.net(k, 3, 0, 0), UNKNOWN);
            c.due("lane " + (k == 4 ? 3 : k), x.net(3, k == 4 ? 3 : k, -1, -1), OUTSIDE);
        }
        for (int lane = 0; lane < 3; lane++) {
            for (int sheet = 0; sheet < 3; sheet++) {
                c.due("sheet " + sheet + " as lane " + lane, x.net(sheet, lane, 0, 0), sheet == lane ? -100 : CAST);
                c.due("and n below 0", x.net(sheet, lane, -1, -1), sheet == lane ? SIZE : CAST);
            }
            c.due("nothing as lane " + lane, x.net(3, lane, -1, -1), NULL);
        }
        c.due("SIZE -1", x.net(0, 0, 0, -1), SIZE);
        c.due("SIZE of the least", x.net(0, 0, 3, MIN), SIZE);
        int[][] beyond = {{-1, 0}, {-1, 1}, {-1, 4}, {0, 4}, {1, 3}, {2, 2}, {3, 1}, {4, 0}, {0, 61}, {0, MAX},
            {1, MAX}, {MAX, 1}, {MAX, MAX}, {MIN, 0}, {MIN, MAX}};
        for (int[] b : beyond) {
            c.due("INDEX of " + b[1] + " from " + b[0], x.net(0, 0, b[0], b[1]), INDEX);
        }
        c.due("all of it", x.net(0, 0, 0, 3), -100);
        c.due("the last of it", x.net(0, 0, 2, 1), -100);
    }

    private static void ofStretch() {
        c.sentence("Of a STRETCH: 0 kind, 1, 2 its PLACES, 3 LONG, 4 SIGHTS, 5 DANGER by the TEXT, 6 how many MINUTES"
            + " it TAKES now, 7 whether it is CLOSED (1, 0). UNKNOWN; OUTSIDE.");
        HomeByFour x = Check.withNet("n7;p65901;m01190");
        int[][] rows = {{2, 6, 5, 9, 0, 1, 20, 0}, {1, 0, 1, 1, 9, 0, 2, 0}};
        for (int what = 0; what < 8; what++) {
            c.due("ofStretch(0, " + what + ")", x.ofStretch(0, what), rows[0][what]);
            c.due("ofStretch(1, " + what + ")", x.ofStretch(1, what), rows[1][what]);
        }
        x.friend(6);
        x.close(0, true);
        c.due("by the text still", x.ofStretch(0, 5), 1);
        c.due("now", x.ofStretch(0, 6), 21);
        c.due("closed", x.ofStretch(0, 7), 1);
        c.due("not closed", x.ofStretch(1, 7), 0);
        for (int what : new int[] {-1, 8, MIN, MAX}) {
            c.due("what " + what, x.ofStretch(0, what), OUTSIDE);
            c.due("what " + what + " of none", x.ofStretch(2, what), UNKNOWN);
        }
        c.due("of none", x.ofStretch(2, 0), UNKNOWN);
        c.due("of -1", x.ofStretch(-1, 0), UNKNOWN);
    }

    private static void due() {
        c.sentence("One is DUE behind v MINUTES (0 .. 99): behind how many one was. OUTSIDE; STATE: there is no NET.");
        HomeByFour x = new HomeByFour();
        for (int v : new int[] {-1, 100, MIN, MAX}) {
            c.due("due " + v + ", no net", x.due(v), OUTSIDE);
        }
        c.due("due 0, no net", x.due(0), STATE);
        c.due("due 99, no net", x.due(99), STATE);
        Check.netOf(x, "n2;s01950");
        int was = 45;
        for (int v : new int[] {0, 99, 0, 9, 8}) {
            c.due("due " + v, x.due(v), was);
            c.due("many 2", x.many(2), v);
            was = v;
        }
        for (int v : new int[] {-1, 100, MIN, MAX}) {
            c.due("due " + v, x.due(v), OUTSIDE);
        }
        c.due("behind 8 still", walked(x, 3, 0), 100004);
        c.due("8 still", x.due(45), 8);
    }

    private static void law() {
        c.sentence("The LAW becomes v: what it was. OUTSIDE: 0 .. 2; STATE: there is no NET.");
        HomeByFour x = new HomeByFour();
        for (int v : new int[] {-1, 3, MIN, MAX}) {
            c.due("law " + v + ", no net", x.law(v), OUTSIDE);
        }
        c.due("law 0, no net", x.law(0), STATE);
        c.due("law 2, no net", x.law(2), STATE);
        Check.netOf(x, Check.FOUR);
        int was = 0;
        for (int v : new int[] {2, 0, 1, 1, 2}) {
            c.due("law " + v, x.law(v), was);
            c.due("many 3", x.many(3), v);
            was = v;
        }
        for (int v : new int[] {-1, 3, MIN, MAX}) {
            c.due("law " + v, x.law(v), OUTSIDE);
        }
        c.due("2 still", x.law(0), 2);
    }

    private static void friend() {
        c.sentence("There is a FRIEND as far as a PLACE (NONE: there is none): as far as which there was one (NONE).");
        HomeByFour x = Check.withNet("n7;s56100");
        c.due("none at first", x.friend(NONE), NONE);
        int was = NONE;
        for (int place : new int[] {0, 6, NONE, 5, 5, 6}) {
            c.due("friend " + place, x.friend(place), was);
            c.due("minutes", x.ofStretch(0, 6), place == 6 ? 2 : 1);
            was = place;
        }
        c.sentence("UNKNOWN; STATE: there is no NET, and it is NONE.");
        for (int place : new int[] {7, -1, -8, -10, MIN, MAX}) {
            c.due("friend " + place, x.friend(place), UNKNOWN);
        }
        c.due("6 still", x.friend(NONE), 6);
        x = new HomeByFour();
        c.due("no net, NONE", x.friend(NONE), STATE);
        c.due("no net, 0", x.friend(0), UNKNOWN);
        c.due("no net, -1", x.friend(-1), UNKNOWN);
    }

    private static void close() {
        c.sentence("A STRETCH is CLOSED (true), or not: 1; 0: it was so. UNKNOWN.");
        HomeByFour x = Check.withNet("n3;s01100;s12100");
        c.due("not closed it was", x.close(1, false), 0);
        c.due("close", x.close(1, true), 1);
        c.due("closed", x.ofStretch(1, 7), 1);
        c.due("the other one", x.ofStretch(0, 7), 0);
        c.due("closed it was", x.close(1, true), 0);
        c.due("closed still", x.ofStretch(1, 7), 1);
        c.due("open", x.close(1, false), 1);
        c.due("open it was", x.close(1, false), 0);
        c.due("not closed", x.ofStretch(1, 7), 0);
        c.due("none", x.close(2, true), UNKNOWN);
        c.due("-1", x.close(-1, true), UNKNOWN);
        c.due("no net", new HomeByFour().close(0, true), UNKNOWN);
    }
}
