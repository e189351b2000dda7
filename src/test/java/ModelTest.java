import java.util.Random;

/** Random runs of calls, whose answers must be the Model's; and no call may throw. */
public final class ModelTest {
    // What an object answers behind its 512th call is free; a round asks for a text's cells at most.
    private static final int RUNS = 4000, MOST_CALLS = 512, MOST_OF_ROUND = 70;
    private static final int[] ODD = {-1, -2, -9, 4, 5, 9, 12, 13, 60, 61, 100, 201, 255, 300,
        Integer.MIN_VALUE, Integer.MAX_VALUE, Integer.MIN_VALUE + 1, Integer.MAX_VALUE - 59};

    private final Random random;
    private final HomeByFour x = new HomeByFour();
    private final Model m = new Model();
    private String call = "";
    private long got;
    private long want;
    private int used = 0;

    private ModelTest(long seed) {
        random = new Random(seed);
    }

    public static void main(String[] args) {
        Check c = new Check();
        for (int run = 0; run < RUNS; run++) {
            new ModelTest(run).go(c, run);
        }
        c.end();
    }

    private void go(Check c, int run) {
        c.part("run of seed " + run);
        if (random.nextInt(20) != 0) {
            writeText(random.nextInt(4), random.nextInt(3));
            compare(c);
        }
        while (used + MOST_OF_ROUND <= MOST_CALLS) {
            any();
            compare(c);
        }
        for (int what = 0; what < 5; what++) {
            c.due("many(" + what + ")", x.many(what), m.many(what));
        }
    }

    private void compare(Check c) {
        c.due(call, got, want);
        c.due("fault() behind " + call, x.fault(), m.fault());
        c.due("trace() behind " + call, x.trace(), m.trace());
        used += 2;
    }

    private void is(String told, long ofClass, long ofModel) {
        used++;
        call = told;
        got = ofClass;
        want = ofModel;
    }

    /** Mostly a number below n, now and then an odd one. */
    private int about(int n) {
        return random.nextInt(12) == 0 ? ODD[random.nextInt(ODD.length)] : random.nextInt(n);
    }

    private int digit(int least, int most) {
        return '0' + least + random.nextInt(most - least + 1);
    }

    private String makeText() {
        int places = 2 + random.nextInt(random.nextInt(3) == 0 ? 6 : 3);
        // Few stretches oftener: rows of eight make the model slow.
        int stretches = random.nextInt(30) == 0 ? 8 : 1 + random.nextInt(6);
        int dull = random.nextInt(3);
        StringBuilder text = new StringBuilder("n").append(places);
        for (int k = 0; k < stretches; k++) {
            int a = random.nextInt(places);
            int b = (a + 1 + random.nextInt(places - 1)) % places;
            text.append(';').append("smp".charAt(random.nextInt(3))).append(a).append(b);
            text.append((char) digit(1, dull == 0 ? 2 : 9)).append((char) digit(0, dull == 0 ? 1 : 9));
            text.append((char) digit(0, dull == 2 ? 2 : 9));
        }
        if (random.nextInt(4) == 0) {
            int at = random.nextInt(text.length());
            text.setCharAt(at, "nsmp;0123456789:/x".charAt(random.nextInt(18)));
        }
        if (random.nextInt(8) == 0) {
            text.setLength(random.nextInt(text.length() + 1));
        }
        return text.toString();
    }

    private void writeText(int sheet, int lane) {
        String text = makeText();
        int start = random.nextInt(61 - text.length());
        x.sheet(sheet, lane, 60);
        m.sheet(sheet, lane, 60);
        for (int i = 0; i < text.length(); i++) {
            x.put(sheet, start + i, text.charAt(i));
            m.put(sheet, start + i, text.charAt(i));
        }
        int n = text.length();
        used += 1 + n;
        is("net of " + text, x.net(sheet, lane, start, n), m.net(sheet, lane, start, n));
    }

    private void writeRow() {
        int sheet = random.nextInt(4);
        int lane = random.nextInt(3);
        int length = 1 + random.nextInt(14);
        x.sheet(sheet, lane, length);
        m.sheet(sheet, lane, length);
        for (int i = 0; i < length; i++) {
            int k = random.nextInt(3) == 0 ? about(6) : random.nextInt(Math.max(1, m.many(1)));
            x.put(sheet, i, k);
            m.put(sheet, i, k);
        }
        used += 1 + length;
        followRow(sheet, lane, 0, length);
    }

    /** Asks all of a walk: of its start that stands, and of one step more. */
    private void followRow(int sheet, int lane, int i, int n) {
        int most = n;
        while (most > 0 && m.walk(sheet, lane, i, most, 0) < 0) {
            most--;
        }
        int steps = random.nextInt(4) == 0 ? n : most;
        int what = about(4);
        is("walk(" + sheet + ", " + lane + ", " + i + ", " + steps + ", " + what + ")",
            x.walk(sheet, lane, i, steps, what), m.walk(sheet, lane, i, steps, what));
        if (got == want) {
            int which = about(2);
            is("safe(" + sheet + ", " + lane + ", " + i + ", " + steps + ", " + which + ")",
                x.safe(sheet, lane, i, steps, which), m.safe(sheet, lane, i, steps, which));
        }
    }

    private void any() {
        switch (random.nextInt(4)) {
            case 0: anyOfNet(); break;
            case 1: anySearch(); break;
            case 2: anyOfSheets(); break;
            default: anyOfParts(); break;
        }
    }

    private void anyOfNet() {
        int a = about(7);
        boolean b = random.nextInt(3) == 0;
        switch (random.nextInt(8)) {
            case 0: is("ofStretch(" + a + ", .)", x.ofStretch(a, 6), m.ofStretch(a, 6)); break;
            case 1: {
                int what = about(8);
                is("ofStretch(" + a + ", " + what + ")", x.ofStretch(a, what), m.ofStretch(a, what));
                break;
            }
            case 2: {
                int v = about(60);
                is("due(" + v + ")", x.due(v), m.due(v));
                break;
            }
            case 3: {
                int v = about(3);
                is("law(" + v + ")", x.law(v), m.law(v));
                break;
            }
            case 4: {
                int place = random.nextInt(3) == 0 ? -9 : about(4);
                is("friend(" + place + ")", x.friend(place), m.friend(place));
                break;
            }
            case 5: is("close(" + a + ", " + b + ")", x.close(a, b), m.close(a, b)); break;
            case 6: is("close(" + a + ", false)", x.close(a, false), m.close(a, false)); break;
            default: is("many(" + a + ")", x.many(a), m.many(a)); break;
        }
    }

    private void anySearch() {
        // Long walks of many stretches would make the model slow.
        int longest = m.many(1) > 5 ? 4 : 5;
        int n = random.nextInt(60) == 0 ? about(6) : random.nextInt(10) == 0 ? about(4) : 1 + random.nextInt(longest);
        int q = random.nextInt(4) == 0 ? about(5) : random.nextInt(6) - 1;
        int a = about(5);
        switch (random.nextInt(8)) {
            case 0: is("quickest(" + a + ")", x.quickest(a), m.quickest(a)); break;
            case 1: is("via(" + a + ")", x.via(a), m.via(a)); break;
            case 2: is("best(" + n + ", " + q + ")", x.best(n, q), m.best(n, q)); break;
            case 3: is("safest(" + n + ", " + q + ")", x.safest(n, q), m.safest(n, q)); break;
            case 4: is("worth(" + a + ")", x.worth(a), m.worth(a)); break;
            case 5: case 6: {
                int t = random.nextInt(3) == 0 ? about(201) : about(40);
                is("trails(" + n + ", " + t + ", " + q + ")", x.trails(n, t, q), m.trails(n, t, q));
                break;
            }
            default: {
                int steps = about(6);
                int which = about(2);
                is("dawdle(" + steps + ", " + a + ", " + which + ")",
                    x.dawdle(steps, a, which), m.dawdle(steps, a, which));
                break;
            }
        }
    }

    private void anyOfSheets() {
        int k = about(4);
        int i = about(8);
        switch (random.nextInt(10)) {
            case 0: {
                int lane = about(3);
                int n = about(20);
                is("sheet(" + k + ", " + lane + ", " + n + ")", x.sheet(k, lane, n), m.sheet(k, lane, n));
                break;
            }
            case 1: is("lose(" + k + ")", x.lose(k), m.lose(k)); break;
            case 2: {
                int v = random.nextInt(3) == 0 ? random.nextInt() : about(9);
                is("put(" + k + ", " + i + ", " + v + ")", x.put(k, i, v), m.put(k, i, v));
                break;
            }
            case 3: {
                int lane = about(3);
                is("cell(" + k + ", " + i + ", " + lane + ")", x.cell(k, i, lane), m.cell(k, i, lane));
                break;
            }
            case 4: case 5: {
                int other = random.nextInt(2) == 0 ? k : about(4);
                int j = about(8);
                int n = about(6);
                is("copy(" + k + ", " + i + ", " + other + ", " + j + ", " + n + ")",
                    x.copy(k, i, other, j, n), m.copy(k, i, other, j, n));
                break;
            }
            case 6: {
                int lane = about(3);
                int n = about(8);
                is("net(" + k + ", " + lane + ", " + i + ", " + n + ")", x.net(k, lane, i, n), m.net(k, lane, i, n));
                break;
            }
            case 7: {
                int lane = about(3);
                int n = about(14);
                int what = about(4);
                is("walk(" + k + ", " + lane + ", " + i + ", " + n + ", " + what + ")",
                    x.walk(k, lane, i, n, what), m.walk(k, lane, i, n, what));
                break;
            }
            case 8: writeRow(); break;
            default: {
                if (random.nextInt(12) == 0) {
                    writeText(random.nextInt(4), random.nextInt(3));
                } else {
                    writeRow();
                }
                break;
            }
        }
    }

    private void anyOfParts() {
        int k = about(6);
        switch (random.nextInt(6)) {
            case 0: is("tell(" + k + ")", x.tell(k), m.tell(k)); break;
            case 1: is("sing(" + k + ")", x.sing(k), m.sing(k)); break;
            case 2: {
                int kind = about(3);
                is("as(" + k + ", " + kind + ")", x.as(k, kind), m.as(k, kind));
                break;
            }
            case 3: {
                boolean was = random.nextInt(3) != 0;
                is("reading(" + k + ", " + was + ")", x.reading(k, was), m.reading(k, was));
                break;
            }
            default: {
                int back = about(4);
                is("back(" + back + ")", x.back(back), m.back(back));
                break;
            }
        }
    }
}
