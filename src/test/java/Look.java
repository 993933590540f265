import java.util.ArrayList;
import java.util.List;
import java.util.function.Function;
import java.util.function.Supplier;

/**
 * All that an object shows. An object is used for 512 calls at most, so each part is taken from
 * an object of its own, made in the same way.
 */
final class Look {
    private final TurnLine line;
    private final List<String> rows = new ArrayList<>();

    private Look(TurnLine line) {
        this.line = line;
    }

    /** Everything: what can be seen now, what undo and the slots bring, what the buffer holds. */
    static void same(String when, Supplier<TurnLine> want, Supplier<TurnLine> got) {
        sameNow(when, want, got);
        compare(when + ", undone", want, got, Look::undone);
        compare(when + ", slot 0", want, got, line -> slot(line, 0));
        compare(when + ", slot 1", want, got, line -> slot(line, 1));
        compare(when + ", the buffer", want, got, Look::buffer);
    }

    /** All that a snapshot holds. */
    static void sameNow(String when, Supplier<TurnLine> want, Supplier<TurnLine> got) {
        compare(when, want, got, Look::numbers);
        compare(when, want, got, line -> messages(line, 0));
        compare(when, want, got, line -> messages(line, 1));
        compare(when, want, got, Look::told);
        compare(when + ", run on", want, got, Look::future);
    }

    private static void compare(String when, Supplier<TurnLine> want, Supplier<TurnLine> got,
            Function<TurnLine, Look> part) {
        List<String> wanted = part.apply(want.get()).rows;
        List<String> found = part.apply(got.get()).rows;
        for (int i = 0; i < Math.max(wanted.size(), found.size()); i++) {
            String due = i < wanted.size() ? wanted.get(i) : "nothing";
            String answered = i < found.size() ? found.get(i) : "nothing";
            if (!due.equals(answered)) {
                // what follows the first difference mostly follows from it
                Check.due(when, due, answered);
                return;
            }
        }
    }

    private void row(String name, Check.Call call) {
        rows.add(name + " = " + Check.answer(call));
    }

    private static Look numbers(TurnLine line) {
        Look look = new Look(line);
        look.addState();
        look.addForecasts();
        for (int i = 0; i <= 40; i++) {
            int k = i;
            look.row("nextByte(" + k + ")", () -> line.nextByte(k));
        }
        return look;
    }

    private void addState() {
        for (int i = 0; i < 10; i++) {
            int what = i;
            if (what < 6) {
                row("size(" + what + ")", () -> line.size(what));
                row("next(" + what + ")", () -> line.next(what));
            }
            row("station(0, " + what + ")", () -> line.station(0, what));
            row("station(1, " + what + ")", () -> line.station(1, what));
            row("account(" + what + ")", () -> line.account(what));
        }
        row("efficiency()", line::efficiency);
    }

    private void addForecasts() {
        row("until(true, 0)", () -> line.until(true, 0));
        row("until(true, 1)", () -> line.until(true, 1));
        row("until(false, 0)", () -> line.until(false, 0));
        row("until(false, 1)", () -> line.until(false, 1));
        row("worstFrame()", line::worstFrame);
        row("bestBurst()", line::bestBurst);
    }

    private static Look messages(TurnLine line, int station) {
        Look look = new Look(line);
        int messages = line.station(station, 0);
        for (int i = 0; i < messages; i++) {
            int message = i;
            Object last = 0;
            for (int b = 0; b < 9 && !last.equals(-1); b++) {
                int k = b;
                last = Check.answer(() -> line.messageByte(station, message, k));
                look.rows.add("messageByte(" + station + ", " + message + ", " + k + ") = " + last);
            }
        }
        return look;
    }

    private static Look told(TurnLine line) {
        Look look = new Look(line);
        for (int f = 0; f < 2001; f += f < 200 || f >= 1980 ? 1 : 20) {
            int frame = f;
            look.row("isTold(" + frame + ")", () -> line.isTold(frame));
        }
        return look;
    }

    private static Look future(TurnLine line) {
        Look look = new Look(line);
        for (int n = 0; n < 6; n++) {
            look.row("run(1)", () -> line.run(1));
            look.addState();
        }
        look.row("run(60)", () -> line.run(60));
        look.addState();
        return look;
    }

    private static Look undone(TurnLine line) {
        Look look = new Look(line);
        look.row("size(6)", () -> line.size(6));
        for (int n = 0; n < 11; n++) {
            look.row("undo()", line::undo);
            look.addShort();
        }
        return look;
    }

    private static Look slot(TurnLine line, int slot) {
        Look look = new Look(line);
        look.row("restoreSnapshot(" + slot + ")", () -> line.restoreSnapshot(slot));
        look.row("size(6)", () -> line.size(6));
        look.addState();
        look.addForecasts();
        return look;
    }

    private void addShort() {
        int[] sizes = {0, 1, 4, 5};
        for (int what : sizes) {
            row("size(" + what + ")", () -> line.size(what));
        }
        for (int i = 0; i < 6; i++) {
            int what = i;
            row("station(0, " + what + ")", () -> line.station(0, what));
            row("station(1, " + what + ")", () -> line.station(1, what));
        }
        int[] accounts = {0, 1, 2, 3, 5, 6, 8, 9};
        for (int what : accounts) {
            row("account(" + what + ")", () -> line.account(what));
        }
        row("next(0)", () -> line.next(0));
    }

    /** Its length, and what the bytes before the appended ones are read as. */
    private static Look buffer(TurnLine line) {
        Look look = new Look(line);
        int before = 0;
        Object longest = NONE_READ;
        for (int length = 700; length > 0 && longest.equals(NONE_READ); length -= 20) {
            int tried = length;
            longest = Check.answer(() -> line.parse(tried));
            before = length;
        }
        look.rows.add("the buffer's " + before + " bytes are read as " + longest);
        look.addState();
        return look;
    }

    private static final String NONE_READ = "throws.IllegalArgumentException";
}
