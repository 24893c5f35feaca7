import java.io.IOException;
import java.nio.file.Files;
import java.nio.file.Path;

/**
 * What the tests of boundaries share: a test names the sentence of the document that it holds to, and asks an object
 * that counts its calls.
 */
abstract class Sentences {
    private static String document = null;
    private static String sentence = "";
    private static int sentences = 0;
    private static int checks = 0;
    private static int wrong = 0;

    /** An object whose calls are counted: what it answers behind the 512th is free, so no test may ask for more. */
    static final class Run {
        private final CaptiveCar car = new CaptiveCar();
        int calls = 0;

        Run(String... texts) {
            for (String text : texts) {
                feed(text);
                x().fair();
            }
        }

        CaptiveCar x() {
            calls++;
            if (calls > 512) {
                blame("a test asks for more than 512 calls");
            }
            return car;
        }

        Run feed(String text) {
            for (int i = 0; i < text.length(); i++) {
                x().feed(text.charAt(i));
            }
            return this;
        }

        Run joined(int... goers) {
            for (int g : goers) {
                x().join(g);
            }
            return this;
        }

        Run boarded(int... goers) {
            joined(goers).x().board();
            return this;
        }

        /** All alight, so many HOURS go by, then others board and are let up to 1. */
        Run boardAnew(int hours, int... goers) {
            x().alight();
            return hours(hours).boarded(goers).at(1);
        }

        Run at(int y) {
            x().car(y);
            return this;
        }

        Run hours(int n) {
            for (int left = n; left > 0; left -= 500) {
                x().hour(Math.min(500, left));
            }
            return this;
        }
    }

    static void blame(String what) {
        wrong++;
        System.out.println("'" + sentence + "': " + what);
    }

    static void due(String call, long got, long want) {
        checks++;
        if (got != want) {
            blame(call + " answered " + got + ", due is " + want);
        }
    }

    static void due(String call, String got, String want) {
        checks++;
        if (!got.equals(want)) {
            blame(call + " left " + got + ", due is " + want);
        }
    }

    /** What is tested from here on. Its words must stand in the document, so that no test holds to a sentence of its own. */
    static void says(String words) {
        sentence = words;
        sentences++;
        if (document == null) {
            document = read();
        }
        if (!document.isEmpty() && !document.contains(words)) {
            blame("the document does not say so");
        }
    }

    private static String read() {
        Path path = Path.of("../shared/DOC.md");
        try {
            return Files.exists(path) ? Files.readString(path) : "";
        } catch (IOException e) {
            return "";
        }
    }

    static void end() {
        System.out.println(sentences + " sentences, " + checks + " checks, " + wrong + " wrong");
        if (wrong != 0) {
            System.exit(1);
        }
    }
}
