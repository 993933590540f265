import java.nio.charset.StandardCharsets;
import java.util.Arrays;

/** What the tests share: counting wrong answers, catching exceptions, feeding texts. */
final class Check {
    private static int wrong = 0;
    private static int sentences = 0;
    /** Stands before each wrong answer: the promise and its sentence. */
    private static volatile String about = "";
    private static final int SECONDS = 120;
    private static final int MOST_TOLD = 100;

    static {
        // a broken class may never answer: that is a wrong answer, too
        Thread watch = new Thread(Check::endLater);
        watch.setDaemon(true);
        watch.start();
    }

    private Check() {
    }

    private static void endLater() {
        try {
            Thread.sleep(1000L * SECONDS);
        } catch (InterruptedException e) {
            return;
        }
        System.out.println(about + "no answer after " + SECONDS + " seconds");
        Runtime.getRuntime().halt(1);
    }

    /** A call whose exception, if it throws one, is an answer like others. */
    interface Call {
        Object make();
    }

    /** A test of one sentence, which stands in this part of the document. */
    static void holds(String part, String sentence, Runnable test) {
        about = part + ", \"" + sentence + "\": ";
        sentences++;
        due("the document says so", true, Document.says(part, sentence));
        try {
            test.run();
        } catch (RuntimeException e) {
            tellWrong("the test", e, "no exception outside its answers");
        }
        about = "";
    }

    static void due(String call, Object want, Call made) {
        Object got = answer(made);
        if (!got.equals(want)) {
            tellWrong(call, got, want);
        }
    }

    static void due(String call, Object want, Object got) {
        due(call, want, () -> got);
    }

    private static void tellWrong(String call, Object got, Object want) {
        wrong++;
        if (wrong <= MOST_TOLD) {
            System.out.println(about + call + " answered " + got + ", due is " + want);
        }
    }

    /** The answer; an exception counts as one only if the document may ask for it. */
    static Object answer(Call made) {
        try {
            return made.make();
        } catch (RuntimeException e) {
            String name = e.getClass().getSimpleName();
            return isAskedFor(e.getClass()) ? "throws." + name : "must never throw " + name;
        }
    }

    /** The very class: a subclass, such as ArrayIndexOutOfBoundsException, is the machine's. */
    private static boolean isAskedFor(Class<?> kind) {
        return kind == IllegalArgumentException.class || kind == IllegalStateException.class
            || kind == IndexOutOfBoundsException.class;
    }

    /** Appends the text in pieces of twenty bytes, the last one filled with zeros. */
    static void feed(TurnLine line, String text) {
        feed(line, text.getBytes(StandardCharsets.ISO_8859_1));
    }

    static void feed(TurnLine line, byte[] text) {
        for (int from = 0; from < text.length; from += 20) {
            byte[] piece = Arrays.copyOf(Arrays.copyOfRange(text, from, from + 20), 20);
            appendTwenty(line, piece);
        }
    }

    static int appendTwenty(TurnLine line, byte[] piece) {
        return line.append(four(piece, 0), four(piece, 4), four(piece, 8), four(piece, 12),
            four(piece, 16));
    }

    static int four(byte[] bytes, int from) {
        return (bytes[from] & 255) << 24 | (bytes[from + 1] & 255) << 16
            | (bytes[from + 2] & 255) << 8 | bytes[from + 3] & 255;
    }

    static int parse(TurnLine line, String text) {
        feed(line, text);
        return line.parse(text.length());
    }

    static TurnLine lineOf(String text) {
        TurnLine line = new TurnLine();
        if (parse(line, text) < 0) {
            throw new IllegalArgumentException("a test's text is wrong: " + text);
        }
        return line;
    }

    static void end(String test) {
        System.out.println(test + (sentences > 0 ? ", " + sentences + " sentences" : "") + ": "
            + (wrong == 0 ? "all answers are as due" : wrong + " answers are not as due"));
        if (wrong != 0) {
            System.exit(1);
        }
    }
}
