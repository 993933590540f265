import java.util.function.Function;
import java.util.function.Supplier;

/** The base of the tests by hand: many answers in a row, refused calls, and lines to begin with. */
abstract class Answers {
    static final String ARGUMENT = "throws.IllegalArgumentException";
    static final String STATE = "throws.IllegalStateException";
    static final String INDEX = "throws.IndexOutOfBoundsException";
    static final int MIN = Integer.MIN_VALUE;
    static final int MAX = Integer.MAX_VALUE;
    static final int NONE = -1;
    /** A frame of data of one byte takes 10 ticks, a turn 9, if nothing is escaped. */
    static final String ONE_MESSAGE = "line 1 10;message 0 1;";
    /** Losing frame 4 costs a silence; losing frame 0 as well makes frame 4 one of data. */
    static final String SHIFTED = "line 1 99;message 0 1;message 1 2;message 1 3;lose 4;";

    static void due(String call, Object want, Check.Call made) {
        Check.due(call, want, made);
    }

    static void dueSizes(String when, TurnLine line, int... want) {
        for (int i = 0; i < want.length; i++) {
            int what = i;
            due(when + ": size(" + i + ")", want[i], () -> line.size(what));
        }
    }

    static void dueStation(String when, TurnLine line, int station, int... want) {
        for (int i = 0; i < want.length; i++) {
            int what = i;
            due(when + ": station(" + station + ", " + i + ")", want[i],
                () -> line.station(station, what));
        }
    }

    static void dueAccounts(String when, TurnLine line, int... want) {
        for (int i = 0; i < want.length; i++) {
            int what = i;
            due(when + ": account(" + i + ")", want[i], () -> line.account(what));
        }
    }

    static void dueNext(String when, TurnLine line, int... want) {
        for (int i = 0; i < want.length; i++) {
            int what = i;
            due(when + ": next(" + i + ")", want[i], () -> line.next(what));
        }
    }

    static void dueWire(String when, TurnLine line, int... want) {
        for (int i = 0; i < want.length; i++) {
            int k = i;
            due(when + ": nextByte(" + i + ")", want[i], () -> line.nextByte(k));
        }
        due(when + ": nextByte past the end", NONE, () -> line.nextByte(want.length));
        due(when + ": next(3)", want.length, () -> line.next(3));
    }

    static void dueUntil(String when, TurnLine line, int ticks, int frames) {
        due(when + ": ticks", ticks, () -> line.until(true, 0));
        due(when + ": frames", frames, () -> line.until(true, 1));
    }

    /** The call answers so, and everything that an object shows is then as without the call. */
    static void refused(String name, Object want, Supplier<TurnLine> made,
            Function<TurnLine, Object> call) {
        due(name, want, () -> call.apply(made.get()));
        Look.same("after " + name, made, () -> {
            TurnLine line = made.get();
            Check.answer(() -> call.apply(line));
            return line;
        });
    }

    /** Several steps each time; one run takes at most a hundred. */
    static void runFar(TurnLine line, int steps) {
        for (int left = steps; left > 0; left -= 100) {
            line.run(Math.min(left, 100));
        }
    }

    static void putMany(TurnLine line, int station, int many) {
        for (int n = 0; n < many; n++) {
            line.put(station, 1, n);
        }
    }

    /**
     * A line in the middle of everything: a turn that is being lost, a message that was sent and
     * did not arrive, capacity that is wanted and that was returned, a full undo history, two
     * different snapshots, and 40 bytes in the buffer.
     */
    static TurnLine busy() {
        TurnLine line = busyWithoutText();
        Check.feed(line, "line 7 70;message 1 5; ;");
        return line;
    }

    static TurnLine busyWithoutText() {
        TurnLine line = Check.lineOf("line 2 7;window 0 5;window 1 9;message 0 1 2;"
            + "message 0 126;message 0 3;message 1 9 9 9;lose 1;lose 7;lose 8;lose 9;lose 40;");
        line.saveSnapshot(0);
        line.askBack(1, 4);
        line.askBack(0, 2);
        line.run(3);
        line.run(1);
        line.put(1, 2, 0x7d08L);
        line.run(1);
        line.saveSnapshot(1);
        line.read(1, 1);
        line.lose(50);
        line.run(1);
        line.run(1);
        line.run(2);
        line.askBack(1, 1);
        line.set(3, 9);
        return line;
    }

    /** As the busy one, but with room left in the undo history. */
    static TurnLine young() {
        TurnLine line = Check.lineOf("line 2 7;window 1 6;message 0 1;message 0 2 2;"
            + "message 1 125;lose 1;lose 7;");
        line.set(3, 8);
        line.run(3);
        line.saveSnapshot(1);
        line.askBack(0, 2);
        return line;
    }
}
