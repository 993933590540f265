import java.nio.charset.StandardCharsets;
import java.util.Arrays;
import java.util.Random;

/**
 * Long walks of calls, each made on TurnLine and on the plain line, all answers compared. The
 * seeds are fixed, so a run that fails once fails always.
 */
public final class WalksTest {
    private static final int WALKS = 1500;
    /** An object is used for so many calls; of these, the last are a look at all. */
    private static final int CALLS = 512;
    private static final int LAST_CALLS = 100;

    private final Random random;
    private final TurnLine real = new TurnLine();
    private final PlainLine plain = new PlainLine();
    private final String name;
    private final int style;
    private int left = CALLS;

    private WalksTest(int walk) {
        random = new Random(walk);
        name = "walk " + walk;
        style = walk % 5;
    }

    public static void main(String[] args) {
        int walks = args.length > 0 ? Integer.parseInt(args[0]) : WALKS;
        for (int walk = 0; walk < walks; walk++) {
            new WalksTest(walk).go();
        }
        Check.end("WalksTest");
    }

    private void go() {
        if (style != 0) {
            readText(goodText());
        }
        while (left > LAST_CALLS) {
            oneCall(name + " call " + (CALLS - left) + " ");
        }
        lookAtAll(name + " at its end ");
    }

    /** In one style the line is only run and asked back from, so that numbers pass 256. */
    private void oneCall(String at) {
        int draw = random.nextInt(100);
        if (draw < (style == 1 ? 40 : 14)) {
            int steps = style == 1 ? below(6) : odd(random.nextInt(8) == 0 ? 101 : 6);
            compare(at + "run(" + steps + ")", () -> plain.run(steps), () -> real.run(steps));
        } else if (draw < 55) {
            change(at);
        } else if (draw < 62) {
            back(at);
        } else if (draw < 64 && style != 1) {
            text(at);
        } else {
            look(at);
        }
    }

    private int below(int bound) {
        return 1 + random.nextInt(bound);
    }

    /** Mostly 0 to bound - 1, now and then something beside it, or far away. */
    private int odd(int bound) {
        int draw = random.nextInt(40);
        if (draw == 0) {
            return -1 - random.nextInt(3);
        }
        if (draw == 1) {
            return bound + random.nextInt(3);
        }
        if (draw == 2) {
            int[] far = {Integer.MIN_VALUE, Integer.MAX_VALUE, random.nextInt(), 1999, 2000};
            return far[random.nextInt(far.length)];
        }
        return random.nextInt(bound);
    }

    private void change(String at) {
        int s = odd(2);
        switch (random.nextInt(style == 1 ? 5 : 6)) {
            case 0 -> {
                int length = odd(9);
                long bytes = random.nextInt(3) == 0 ? 0x7d7e7d5e7e7d7dfeL : random.nextLong();
                compare(at + "put(" + s + ", " + length + ", " + bytes + ")",
                    () -> plain.put(s, length, bytes), () -> real.put(s, length, bytes));
            }
            case 1 -> {
                int many = odd(4);
                compare(at + "read(" + s + ", " + many + ")",
                    () -> plain.read(s, many), () -> real.read(s, many));
            }
            case 2 -> {
                int many = odd(10);
                compare(at + "askBack(" + s + ", " + many + ")",
                    () -> plain.askBack(s, many), () -> real.askBack(s, many));
            }
            case 3 -> {
                int many = odd(10);
                compare(at + "grow(" + s + ", " + many + ")",
                    () -> plain.grow(s, many), () -> real.grow(s, many));
            }
            case 4 -> {
                int burst = odd(8);
                int silence = odd(100);
                compare(at + "set(" + burst + ", " + silence + ")",
                    () -> plain.set(burst, silence), () -> real.set(burst, silence));
            }
            default -> {
                int f = nearFrame();
                compare(at + "lose(" + f + ")", () -> plain.lose(f), () -> real.lose(f));
            }
        }
    }

    private int nearFrame() {
        return random.nextInt(4) == 0 ? odd(2000) : plain.account(0) - 2 + random.nextInt(25);
    }

    private void back(String at) {
        int slot = odd(2);
        switch (random.nextInt(6)) {
            case 0 -> compare(at + "saveSnapshot(" + slot + ")",
                () -> plain.saveSnapshot(slot), () -> real.saveSnapshot(slot));
            case 1 -> compare(at + "restoreSnapshot(" + slot + ")",
                () -> plain.restoreSnapshot(slot), () -> real.restoreSnapshot(slot));
            default -> compare(at + "undo()", plain::undo, real::undo);
        }
    }

    private void look(String at) {
        int s = odd(2);
        int what = odd(10);
        switch (random.nextInt(16)) {
            case 0 -> compare(at + "size(" + what + ")",
                () -> plain.size(what), () -> real.size(what));
            case 1, 2, 3 -> compare(at + "station(" + s + ", " + what + ")",
                () -> plain.station(s, what), () -> real.station(s, what));
            case 4 -> {
                int m = odd(20);
                int k = odd(9);
                compare(at + "messageByte(" + s + ", " + m + ", " + k + ")",
                    () -> plain.messageByte(s, m, k), () -> real.messageByte(s, m, k));
            }
            case 5 -> {
                int f = nearFrame();
                compare(at + "isTold(" + f + ")", () -> plain.isTold(f), () -> real.isTold(f));
            }
            case 6 -> compare(at + "next(" + what + ")",
                () -> plain.next(what), () -> real.next(what));
            case 7 -> {
                int k = odd(27);
                compare(at + "nextByte(" + k + ")", () -> plain.nextByte(k), () -> real.nextByte(k));
            }
            case 8, 9 -> compareUntil(at, odd(2));
            case 10, 11 -> {
                int f = nearFrame();
                compare(at + "delay(" + f + ")", () -> plain.delay(f), () -> real.delay(f));
            }
            case 12 -> compare(at + "worstFrame()", plain::worstFrame, real::worstFrame);
            case 13 -> compare(at + "bestBurst()", plain::bestBurst, real::bestBurst);
            case 14 -> compare(at + "account(" + what + ")",
                () -> plain.account(what), () -> real.account(what));
            default -> compare(at + "efficiency()", plain::efficiency, real::efficiency);
        }
    }

    private void compareUntil(String at, int what) {
        boolean reading = random.nextBoolean();
        compare(at + "until(" + reading + ", " + what + ")",
            () -> plain.until(reading, what), () -> real.until(reading, what));
    }

    private void lookAtAll(String at) {
        for (int i = -1; i < 11; i++) {
            int what = i;
            compare(at + "size " + i, () -> plain.size(what), () -> real.size(what));
            compare(at + "account " + i, () -> plain.account(what), () -> real.account(what));
            compare(at + "next " + i, () -> plain.next(what), () -> real.next(what));
            for (int s = 0; s < 2; s++) {
                int station = s;
                compare(at + "station " + s + " " + i,
                    () -> plain.station(station, what), () -> real.station(station, what));
            }
        }
        for (int i = -1; i < 28; i++) {
            int k = i;
            compare(at + "nextByte " + k, () -> plain.nextByte(k), () -> real.nextByte(k));
        }
    }

    private void text(String at) {
        String text = random.nextInt(3) == 0 ? goodText() : badText();
        readText(text);
        if (random.nextInt(20) == 0) {
            for (int n = 0; n < 37; n++) {
                appendBoth(at, new byte[20]);
            }
            compare(at + "parse", () -> plain.parse(700), () -> real.parse(700));
        }
    }

    private void readText(String text) {
        byte[] bytes = text.getBytes(StandardCharsets.ISO_8859_1);
        for (int from = 0; from < bytes.length; from += 20) {
            appendBoth(name + " ", Arrays.copyOfRange(bytes, from, from + 20));
        }
        int length = random.nextInt(10) == 0 ? odd(700) : Math.min(700, bytes.length);
        compare(name + " parse " + length + " of " + text,
            () -> plain.parse(length), () -> real.parse(length));
    }

    private void appendBoth(String at, byte[] twenty) {
        compare(at + "append", () -> plain.append(twenty), () -> real.append(
            Check.four(twenty, 0), Check.four(twenty, 4), Check.four(twenty, 8),
            Check.four(twenty, 12), Check.four(twenty, 16)));
    }

    private String goodText() {
        StringBuilder text = new StringBuilder();
        text.append("line ").append(below(7)).append(" ").append(below(99)).append(";");
        int first = random.nextInt(3);
        for (int station = 0; station < 2; station++) {
            if (first != station) {
                text.append("window ").append(station).append(' ').append(below(9)).append(";");
            }
            int messages = random.nextInt(random.nextInt(4) == 0 ? 21 : 7);
            for (int m = 0; m < messages; m++) {
                text.append("message ").append(station);
                int bytes = below(messages > 7 ? 2 : 8);
                for (int k = 0; k < bytes; k++) {
                    text.append(' ').append(random.nextInt(3) == 0 ? 125 + random.nextInt(2)
                        : random.nextInt(256));
                }
                text.append(random.nextInt(5) == 0 ? " \n;\n" : ";");
            }
        }
        int frame = random.nextInt(3);
        for (int n = random.nextInt(14); n > 0 && frame < 500; n--) {
            text.append("lose ").append(frame).append(";");
            frame += below(random.nextInt(5) == 0 ? 100 : 6);
        }
        return text.length() > 700 ? goodText() : text.toString();
    }

    /** A text that is good but for some places where something was put, taken or written over. */
    private String badText() {
        String[] bits = {" ", "\n", ";", "0", "1", "2", "9", "20", "100", "256", "499", "500",
            "1000", "line", "window", "message", "lose", "losex", "abcdefghi", "\t", "\u00ff",
            "\u0080", "\0", "A", " 7 7 7 7 7 7 7 7 ", "lose 499;lose 499;", "window 0 3;",
            "message 0 1;message 0 1;message 0 1;message 0 1;message 0 1;message 0 1;",
            "lose 51;lose 52;lose 53;lose 54;lose 55;lose 56;lose 57;lose 58;lose 59;lose 60;"};
        StringBuilder text = new StringBuilder(goodText());
        for (int n = random.nextInt(4); n > 0; n--) {
            int from = random.nextInt(text.length() + 1);
            int to = Math.min(text.length(), from + random.nextInt(4));
            text.replace(from, to, bits[random.nextInt(bits.length)]);
        }
        return text.toString();
    }

    /** Makes no call any more when the object was used up. */
    private void compare(String call, Check.Call want, Check.Call got) {
        if (left > 0) {
            left--;
            Check.due(call, Check.answer(want), got);
        }
    }
}
