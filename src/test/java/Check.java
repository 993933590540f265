import java.nio.charset.StandardCharsets;
import java.util.Arrays;

/** What the tests share: counting wrong answers, catching exceptions, feeding texts. */
final class Check {
    private static int wrong = 0;

    private Check() {
    }

    /** A call whose exception, if it throws one, is an answer like others. */
    interface Call {
        Object make();
    }

    static void due(String call, Object want, Call made) {
        Object got = answer(made);
        if (!got.equals(want)) {
            wrong++;
            System.out.println(call + " answered " + got + ", due is " + want);
        }
    }

    static void due(String call, Object want, Object got) {
        due(call, want, () -> got);
    }

    /** The answer; an exception counts as one only if the document may ask for it. */
    static Object answer(Call made) {
        try {
            return made.make();
        } catch (RuntimeException e) {
            String name = e.getClass().getSimpleName();
            return isAskedFor(e.getClass()) ? "throws." + name : "must never throw " + name;
        }
    }

    /** The very class: a subclass, such as ArrayIndexOutOfBoundsException, is the machine's. */
    private static boolean isAskedFor(Class<?> kind) {
        return kind == IllegalArgumentException.class || kind == IllegalStateException.class
            || kind == IndexOutOfBoundsException.class;
    }

    /** Appends the text in pieces of twenty bytes, the last one filled with zeros. */
    static void feed(TurnLine line, String text) {
        feed(line, text.getBytes(StandardCharsets.ISO_8859_1));
    }

    static void feed(TurnLine line, byte[] text) {
        for (int from = 0; from < text.length; from += 20) {
            byte[] piece = Arrays.copyOf(Arrays.copyOfRange(text, from, from + 20), 20);
            line.append(four(piece, 0), four(piece, 4), four(piece, 8), four(piece, 12),
                four(piece, 16));
        }
    }

    static int four(byte[] bytes, int from) {
        return (bytes[from] & 255) << 24 | (bytes[from + 1] & 255) << 16
            | (bytes[from + 2] & 255) << 8 | bytes[from + 3] & 255;
    }

    static int parse(TurnLine line, String text) {
        feed(line, text);
        return line.parse(text.length());
    }

    static TurnLine lineOf(String text) {
        TurnLine line = new TurnLine();
        if (parse(line, text) < 0) {
            throw new AssertionError("a test's text is wrong: " + text);
        }
        return line;
    }

    static void end(String test) {
        System.out.println(test + ": " + (wrong == 0 ? "all answers are as due"
            : wrong + " answers are not as due"));
        if (wrong != 0) {
            System.exit(1);
        }
    }
}
