import java.io.IOException;
import java.io.UncheckedIOException;
import java.nio.file.Files;
import java.nio.file.Path;

/** What the tests share: counting wrong answers, and making objects with a net. */
final class Check {
    /** Places 0 to 3; a stretch of each kind, and two ways home that differ in all they can. */
    static final String FOUR = "n4;s03914;m01190;p12250;s23313;m13421";
    private static final Path DOCUMENT = Path.of("../shared/DOC.md");

    private int wrong = 0;
    private int asked = 0;
    private int askedBefore = 0;
    private String part = "";
    private String document = "";

    void part(String name) {
        endPart();
        part = name;
    }

    /** Begins the test of a sentence, in words that must stand in the document. */
    void sentence(String words) {
        sentence("", words);
    }

    /** As well, for words that stand there for several calls: of which the test is. */
    void sentence(String of, String words) {
        part(of + "\"" + words + "\"");
        if (!document().contains(words)) {
            wrong++;
            System.out.println(part + ": the document does not say so");
        }
    }

    /** Runs tests, each even if one ahead of it threw. */
    void run(Runnable... tests) {
        for (Runnable test : tests) {
            try {
                test.run();
            } catch (RuntimeException e) {
                wrong++;
                System.out.println(part + ": threw " + e);
            }
        }
    }

    void due(String call, long got, long want) {
        asked++;
        if (got != want) {
            wrong++;
            System.out.println(part + ": " + call + " answered " + got + ", due is " + want);
        }
    }

    void dueTrue(String what, boolean holds) {
        due(what, holds ? 1 : 0, 1);
    }

    void end() {
        endPart();
        System.out.println(asked + " answers, " + wrong + " wrong");
        if (wrong != 0 || asked == 0) {
            System.exit(1);
        }
    }

    /** A part that asks nothing would hold whatever the class did. */
    private void endPart() {
        if (!part.isEmpty() && asked == askedBefore) {
            wrong++;
            System.out.println(part + ": nothing was asked");
        }
        askedBefore = asked;
    }

    private String document() {
        if (document.isEmpty()) {
            try {
                document = Files.readString(DOCUMENT);
            } catch (IOException e) {
                throw new UncheckedIOException(e);
            }
        }
        return document;
    }

    static void write(HomeByFour x, int sheet, int lane, int... cells) {
        x.sheet(sheet, lane, cells.length);
        for (int i = 0; i < cells.length; i++) {
            x.put(sheet, i, cells[i]);
        }
    }

    static int netOf(HomeByFour x, String text) {
        write(x, 0, 0, text.chars().toArray());
        return x.net(0, 0, 0, text.length());
    }

    static HomeByFour withNet(String text) {
        HomeByFour x = new HomeByFour();
        if (netOf(x, text) < 1) {
            throw new IllegalStateException("no net by " + text);
        }
        return x;
    }
}
