import java.util.function.Function;
import java.util.function.Supplier;

/** The boundary cases of promises 4 to 15: of all calls that only ask. */
public final class AskBoundariesTest extends Answers {
    private static final String OUT_OF_RANGE =
        "Throws `IllegalArgumentException` if what is out of range";
    private static final String NO_STATION =
        "Throws `IndexOutOfBoundsException` if there is no such station (checked first)";
    private static final int FRAMES_TRIED = 45;

    private AskBoundariesTest() {
    }

    public static void main(String[] args) {
        nothingChanges();
        size();
        station();
        messageByte();
        isTold();
        next();
        nextByte();
        until();
        longForecasts();
        delay();
        worstFrame();
        bestBurst();
        account();
        efficiency();
        Check.end("AskBoundariesTest");
    }

    private static String messages(int station, int many) {
        return ("message " + station + " 1;").repeat(many);
    }

    /** Refused whatever is going on, and then all is as before. */
    private static void refusedAlways(String name, Object want, Function<TurnLine, Object> call) {
        refused(name, want, Answers::busy, call);
        refused(name, want, Answers::young, call);
        refused(name, want, TurnLine::new, call);
    }

    private static void nothingChanges() {
        Check.holds("Terms", "---- the next frame, and what could come; nothing changes.", () -> {
            Look.same("after asking", Answers::busy, () -> asked(busy()));
            Look.same("after asking", Answers::young, () -> asked(young()));
            Look.same("after asking", TurnLine::new, () -> asked(new TurnLine()));
        });
    }

    private static TurnLine asked(TurnLine line) {
        for (int what = 0; what < 6; what++) {
            line.next(what);
        }
        for (int k = -1; k < 20; k++) {
            line.nextByte(k);
        }
        line.until(true, 0);
        line.until(true, 1);
        line.until(false, 0);
        line.until(false, 1);
        for (int frame = 0; frame < 20; frame++) {
            line.delay(frame);
        }
        line.worstFrame();
        line.bestBurst();
        for (int what = 0; what < 10; what++) {
            line.account(what);
        }
        line.efficiency();
        return line;
    }

    private static void size() {
        String part = "Promise 4";
        Check.holds(part, "`what`: 0 burst, 1 silence, 2 the time (ticks that have passed), 3 the "
            + "talker,", () -> {
            TurnLine line = Check.lineOf("line 2 5;message 0 1;");
            dueSizes("at first", line, 2, 5, 0, 0);
            line.run(1);
            dueSizes("a step later", line, 2, 5, 10, 0);
            line.run(1);
            dueSizes("two steps later", line, 2, 5, 19, 1);
        });
        Check.holds(part, "4 frames of data that the talker has sent in its turn,", () -> {
            TurnLine line = Check.lineOf("line 7 5;window 1 9;" + messages(0, 8) + "lose 1;lose 7;");
            for (int sent = 0; sent < 7; sent++) {
                due("lost ones, too", sent, () -> line.size(4));
                line.run(1);
            }
            due("a whole burst", 7, () -> line.size(4));
            line.run(1);
            due("still its turn", 7, () -> line.size(4));
            line.run(1);
            due("the other's turn", 0, () -> line.size(4));
        });
        Check.holds(part, "5 frames that are told to be lost (past ones, too),", () -> {
            due("none", 0, () -> new TurnLine().size(5));
            TurnLine line = Check.lineOf("line 2 5;lose 0;lose 1;lose 499;");
            due("three", 3, () -> line.size(5));
            line.run(5);
            due("past ones, too", 3, () -> line.size(5));
            for (int frame = 100; frame < 137; frame++) {
                line.lose(frame);
            }
            due("forty", 40, () -> line.size(5));
        });
        Check.holds(part, "6 changes that can be undone", () -> {
            TurnLine line = new TurnLine();
            for (int changes = 0; changes < 13; changes++) {
                due("changes", Math.min(10, changes), () -> line.size(6));
                line.set(1, 1);
            }
            line.undo();
            due("one was undone", 9, () -> line.size(6));
        });
        Check.holds(part, OUT_OF_RANGE, () -> {
            int[] numbers = {MIN, -1, 7, MAX};
            for (int what : numbers) {
                refusedAlways("size(" + what + ")", ARGUMENT, line -> line.size(what));
            }
        });
    }

    private static void station() {
        String part = "Promise 5";
        Check.holds(part, "`station`: 0 or 1", () -> {
            TurnLine line = Check.lineOf("line 3 20;window 0 1;window 1 9;");
            due("station 0", 1, () -> line.station(0, 3));
            due("station 1", 9, () -> line.station(1, 3));
        });
        Check.holds(part, "`what`: 0 its messages, 1 how many of the other one it has accepted, 2 "
            + "how many of these its host has read, 3 its capacity, 4 wanted, 5 returned, 6 the "
            + "accepted that it knows, 7 the limit that it knows, 8 how many of its messages it "
            + "has ever sent, 9 turns that it has passed", () -> {
            TurnLine line = Check.lineOf("line 2 5;window 1 6;" + messages(0, 3) + "lose 1;");
            dueStation("at first", line, 0, 3, 0, 0, 4, 0, 0, 0, 6, 0, 0);
            line.run(3);
            line.read(1, 1);
            dueStation("a lost one was sent", line, 0, 3, 0, 0, 4, 0, 0, 0, 6, 2, 1);
            dueStation("accepted and read", line, 1, 0, 1, 1, 6, 0, 0, 0, 4, 0, 0);
            line.askBack(1, 2);
            line.run(1);
            dueStation("returned", line, 0, 3, 0, 0, 4, 0, 2, 1, 5, 2, 1);
            dueStation("wanted", line, 1, 0, 1, 1, 6, 2, 0, 0, 4, 0, 1);
            line.run(1);
            dueStation("sent once more", line, 0, 3, 0, 0, 4, 0, 2, 1, 5, 2, 1);
            dueStation("nothing is wanted", line, 1, 0, 2, 1, 4, 0, 0, 0, 4, 0, 1);
        });
        Check.holds(part, NO_STATION, () -> {
            int[] numbers = {MIN, -1, 2, MAX};
            for (int station : numbers) {
                refusedAlways("station(" + station + ", 0)", INDEX, line -> line.station(station, 0));
                refusedAlways("station(" + station + ", 10)", INDEX,
                    line -> line.station(station, 10));
                refusedAlways("station(" + station + ", -1)", INDEX,
                    line -> line.station(station, -1));
            }
        });
        Check.holds(part, OUT_OF_RANGE, () -> {
            int[] numbers = {MIN, -1, 10, MAX};
            for (int what : numbers) {
                refusedAlways("station(0, " + what + ")", ARGUMENT, line -> line.station(0, what));
                refusedAlways("station(1, " + what + ")", ARGUMENT, line -> line.station(1, what));
            }
        });
    }

    private static void messageByte() {
        String part = "Promise 6";
        String text = "line 3 20;message 0 1 255;message 0 0;message 1 9 8 7 6 5 4 3 128;";
        Check.holds(part, "`station`: 0 or 1", () -> {
            due("station 0", 1, () -> Check.lineOf(text).messageByte(0, 0, 0));
            due("station 1", 9, () -> Check.lineOf(text).messageByte(1, 0, 0));
        });
        Check.holds(part, "`message`: a message of it", () -> {
            TurnLine line = Check.lineOf(text);
            due("the last one of 0", 0, () -> line.messageByte(0, 1, 0));
            due("only 0 has a message 1", INDEX, () -> line.messageByte(1, 1, 0));
        });
        Check.holds(part, "`k`: 0 for its first byte", () -> {
            TurnLine line = Check.lineOf(text);
            due("byte 0 of a message", 1, () -> line.messageByte(0, 0, 0));
            due("byte 0 of the next one", 0, () -> line.messageByte(0, 1, 0));
            due("byte 0 of the other station", 9, () -> line.messageByte(1, 0, 0));
        });
        Check.holds(part, "Returns the byte; NONE if it has not so many, or k is negative.", () -> {
            TurnLine line = Check.lineOf(text);
            due("the last of two", 255, () -> line.messageByte(0, 0, 1));
            due("past two", NONE, () -> line.messageByte(0, 0, 2));
            due("past one", NONE, () -> line.messageByte(0, 1, 1));
            due("the last of eight", 128, () -> line.messageByte(1, 0, 7));
            int[] numbers = {MIN, -8, -1, 8, 9, 64, MAX};
            for (int k : numbers) {
                due("byte " + k, NONE, () -> line.messageByte(1, 0, k));
            }
        });
        Check.holds(part, "Throws `IndexOutOfBoundsException` if there is no such station or "
            + "message", () -> {
            int[] stations = {MIN, -1, 2, MAX};
            for (int station : stations) {
                refusedAlways("messageByte(" + station + ", 0, 0)", INDEX,
                    line -> line.messageByte(station, 0, 0));
            }
            // the busy line has messages 0 to 2 of station 0, and 0 and 1 of station 1
            int[] numbers = {MIN, -1, 3, 20, MAX};
            for (int message : numbers) {
                refusedAlways("messageByte(0, " + message + ", 0)", INDEX,
                    line -> line.messageByte(0, message, 0));
                refusedAlways("messageByte(0, " + message + ", -1)", INDEX,
                    line -> line.messageByte(0, message, -1));
                refusedAlways("messageByte(1, " + message + ", 99)", INDEX,
                    line -> line.messageByte(1, message, 99));
            }
            refused("messageByte(1, 2, 0)", INDEX, Answers::busy, line -> line.messageByte(1, 2, 0));
            due("the last message", 8, () -> busy().messageByte(1, 1, 0));
            refused("messageByte(0, 0, 0)", INDEX, TurnLine::new, line -> line.messageByte(0, 0, 0));
            TurnLine full = new TurnLine();
            putMany(full, 1, 20);
            due("message 19", 19, () -> full.messageByte(1, 19, 0));
            due("message 20", INDEX, () -> full.messageByte(1, 20, 0));
        });
    }

    private static void isTold() {
        Check.holds("Promise 7", "Returns whether the frame was told to be lost, whether it was "
            + "sent already or not.", () -> {
            TurnLine line = Check.lineOf("line 3 20;lose 0;lose 2;lose 63;lose 64;lose 499;");
            line.lose(1999);
            int[] told = {0, 2, 63, 64, 499, 1999};
            int[] others = {MIN, -1999, -64, -1, 1, 3, 62, 65, 127, 128, 498, 500, 1998, 2000,
                2047, 2048, 2063, MAX};
            for (int sent = 0; sent < 2; sent++) {
                for (int frame : told) {
                    due("isTold(" + frame + ")", true, () -> line.isTold(frame));
                }
                for (int frame : others) {
                    due("isTold(" + frame + ")", false, () -> line.isTold(frame));
                }
                line.run(100);
            }
            Look.same("after isTold", Answers::busy, () -> {
                TurnLine busy = busy();
                busy.isTold(-1);
                busy.isTold(2000);
                return busy;
            });
        });
    }

    private static void next() {
        String part = "Promise 8";
        Check.holds(part, "`what`: 0 its type (0 data, 1 a turn), 1 the station that sends it, 2 "
            + "its number in itself (of the message, or of turns passed before), 3 its bytes on "
            + "the line, 4 its number among all frames, 5 1 if it will be lost, 0 otherwise", () -> {
            TurnLine line = Check.lineOf("line 1 10;message 0 1;message 0 126;message 1 5 6;lose 2;"
                + "lose 3;");
            dueNext("data", line, 0, 0, 0, 10, 0, 0);
            line.run(1);
            dueNext("a turn", line, 1, 0, 0, 9, 1, 0);
            line.run(1);
            dueNext("data that will be lost", line, 0, 1, 0, 11, 2, 1);
            line.run(1);
            dueNext("a turn that will be lost", line, 1, 1, 0, 9, 3, 1);
            line.run(1);
            dueNext("the turn once more", line, 1, 1, 0, 9, 4, 0);
            line.run(1);
            dueNext("the second message", line, 0, 0, 1, 11, 5, 0);
            line.run(1);
            dueNext("a second turn", line, 1, 0, 1, 9, 6, 0);
            TurnLine last = new TurnLine();
            runFar(last, 1999);
            last.lose(1999);
            dueNext("frame 1999", last, 1, 1, 999, 9, 1999, 1);
            last.run(1);
            dueNext("frame 2000", last, 1, 1, 999, 9, 2000, 0);
        });
        Check.holds(part, OUT_OF_RANGE, () -> {
            int[] numbers = {MIN, -1, 6, MAX};
            for (int what : numbers) {
                refusedAlways("next(" + what + ")", ARGUMENT, line -> line.next(what));
            }
        });
    }

    private static void nextByte() {
        String part = "Promise 9";
        Check.holds(part, "`k`: 0 for the first byte on the line", () -> {
            TurnLine line = Check.lineOf("line 3 20;window 0 7;message 0 125 126 3;");
            due("byte 0", 126, () -> line.nextByte(0));
            dueWire("data", line, 126, 0, 0, 0, 7, 0, 0, 125, 93, 125, 94, 3, 5, 126);
        });
        Check.holds(part, "Returns this byte of the frame that is next; NONE if it has not so "
            + "many, or k is negative.", () -> {
            TurnLine turn = new TurnLine();
            due("the last of a turn", 126, () -> turn.nextByte(8));
            int[] beside = {MIN, -9, -1, 9, 10, 17, MAX};
            for (int k : beside) {
                due("byte " + k + " of a turn", NONE, () -> turn.nextByte(k));
            }
            // the longest: six of the head, eight bytes with an escape each, the sum
            TurnLine data = Check.lineOf("line 3 20;message 0" + " 126".repeat(8) + ";");
            due("bytes on the line", 25, () -> data.next(3));
            due("the last of data", 126, () -> data.nextByte(24));
            due("the sum", 244, () -> data.nextByte(23));
            due("past the last of data", NONE, () -> data.nextByte(25));
            due("byte -1 of data", NONE, () -> data.nextByte(-1));
        });
    }

    private static void until() {
        String part = "Promise 10";
        Check.holds(part, "Tells how long it would take from now on until all messages are "
            + "accepted, if nothing else was put, read or changed.", () -> {
            TurnLine line = Check.lineOf("line 1 9;message 0 1;message 1 1;message 1 2;");
            // data, turn, data, turn, turn, data
            int[] ticks = {57, 47, 38, 28, 19, 10, 0, 0};
            int[] frames = {6, 5, 4, 3, 2, 1, 0, 0};
            for (int n = 0; n < ticks.length; n++) {
                dueUntil("after " + n + " steps", line, ticks[n], frames[n]);
                line.run(1);
            }
        });
        Check.holds(part, "`reading`: whether the hosts read each message as soon as it is "
            + "accepted (those in the buffers now at once); otherwise they read nothing",
            AskBoundariesTest::untilReading);
        Check.holds(part, "`what`: 0 ticks (the silence behind the last frame not counted), 1 "
            + "frames", () -> {
            dueUntil("a silence", Check.lineOf("line 1 50;message 1 1;lose 0;"), 78, 3);
            dueUntil("two", Check.lineOf("line 1 50;message 1 1;lose 0;lose 1;"), 137, 4);
            // frame 1 is never sent
            dueUntil("none", Check.lineOf("line 1 50;message 0 1;lose 1;"), 10, 1);
            TurnLine line = Check.lineOf("line 1 50;message 1 1;lose 0;");
            line.run(1);
            dueUntil("a silence that is over", line, 19, 2);
        });
        Check.holds(part, "Returns the number, 0 if all are accepted already;", () -> {
            dueUntil("there are none", new TurnLine(), 0, 0);
            due("nobody reads", 0, () -> new TurnLine().until(false, 0));
            TurnLine line = Check.lineOf("line 2 50;window 1 1;message 0 1;lose 1;");
            line.run(1);
            dueUntil("all are accepted", line, 0, 0);
            due("nobody reads", 0, () -> line.until(false, 1));
            line.run(1);
            dueUntil("in a lost turn", line, 0, 0);
            line.put(1, 1, 5L);
            dueUntil("one of station 1 is not", line, 19, 2);
        });
        Check.holds(part, OUT_OF_RANGE, () -> {
            int[] numbers = {MIN, -1, 2, MAX};
            for (int what : numbers) {
                refusedAlways("until(true, " + what + ")", ARGUMENT, x -> x.until(true, what));
                refusedAlways("until(false, " + what + ")", ARGUMENT, x -> x.until(false, what));
            }
        });
    }

    private static void untilReading() {
        TurnLine narrow = Check.lineOf("line 7 99;window 1 1;message 0 1;message 0 2;");
        dueUntil("each is read at once", narrow, 10 + 9 + 9 + 10, 4);
        due("nobody reads", NONE, () -> narrow.until(false, 0));
        narrow.run(1);
        dueUntil("the one in the buffer, too", narrow, 9 + 9 + 10, 3);
        due("nobody reads it", NONE, () -> narrow.until(false, 1));
        due("it was not really read", 0, () -> narrow.station(1, 2));
        narrow.read(1, 1);
        due("it was read before", 3, () -> narrow.until(false, 1));
        due("ticks", 28, () -> narrow.until(false, 0));
        TurnLine just = Check.lineOf("line 7 99;window 1 2;message 0 1;message 0 2;");
        due("a buffer that is just enough", 2, () -> just.until(false, 1));
        due("ticks", 20, () -> just.until(false, 0));
        just.put(0, 1, 3L);
        due("a buffer that is too small by one", NONE, () -> just.until(false, 1));
        just.grow(1, 1);
        due("and has grown", 5, () -> just.until(false, 1));
        TurnLine other = Check.lineOf("line 7 99;window 0 1;message 1 1;message 1 2;");
        dueUntil("station 0 reads as well", other, 9 + 10 + 9 + 9 + 10, 5);
        due("station 0 reads nothing", NONE, () -> other.until(false, 1));
        other.run(2);
        dueUntil("the one in its buffer, too", other, 9 + 9 + 10, 3);
        due("station 0 does not read it", NONE, () -> other.until(false, 1));
    }

    private static void longForecasts() {
        Check.holds("Promise 10", "NONE if it would take more than 600 frames.", () -> {
            TurnLine stuck = Check.lineOf("line 7 1;window 1 1;" + messages(0, 2));
            due("never: ticks", NONE, () -> stuck.until(false, 0));
            due("never: frames", NONE, () -> stuck.until(false, 1));
            TurnLine line = Check.lineOf("line 7 1;window 1 9;" + messages(0, 9));
            for (int n = 0; n < 40; n++) {
                // the first one of each turn: all behind it are useless
                line.lose(9 * n);
            }
            dueUntil("long", line, 40 * 88 + 70 + 18 + 20, 371);
            due("nobody reads", 371, () -> line.until(false, 1));
            runFar(line, 370);
            due("all but one", 8, () -> line.station(1, 1));
            dueUntil("the last one", line, 10, 1);
            line.run(1);
            due("all", 9, () -> line.station(1, 1));
            longest();
        });
    }

    /** As above, but so narrow in the end that each message takes a turn of its own. */
    private static void longest() {
        Supplier<TurnLine> made = () -> {
            TurnLine line = Check.lineOf("line 7 1;window 0 1;window 1 9;" + messages(0, 20)
                + messages(1, 20));
            line.askBack(1, 8);
            return line;
        };
        TurnLine lossy = made.get();
        int[] lost = new int[40];
        for (int n = 0; n < 40; n++) {
            lost[n] = lossy.next(4);
            lossy.lose(lost[n]);
            // seven of data and a turn
            lossy.run(8);
            if (n < 20) {
                lossy.run(1);
                lossy.read(0, 1);
            }
            lossy.run(1);
        }
        due("nothing was accepted", 0, () -> lossy.station(1, 1));
        TurnLine line = made.get();
        for (int frame : lost) {
            line.lose(frame);
        }
        int frames = line.until(true, 1);
        due("more than 400", true, () -> frames > 400 && frames < 600);
        due("as in what is left", frames - lossy.account(0), () -> lossy.until(true, 1));
        while (lossy.account(0) < frames - 1) {
            lossy.run(1);
            if (lossy.station(1, 1) > lossy.station(1, 2)) {
                lossy.read(1, 1);
            }
        }
        due("all but one", 19, () -> lossy.station(1, 1));
        lossy.run(1);
        due("all", 20, () -> lossy.station(1, 1));
    }

    private static void delay() {
        String part = "Promise 11";
        Check.holds(part, "Tells how many more ticks until(true, 0) would be if one more frame "
            + "was lost.", () -> {
            dueDelays("one message", () -> Check.lineOf(ONE_MESSAGE));
            dueDelays("shifted", () -> Check.lineOf(SHIFTED));
            dueDelays("busy", Answers::busy);
            dueDelays("young", Answers::young);
            dueDelays("narrow", () -> Check.lineOf("line 3 40;window 0 1;window 1 2;"
                + messages(0, 5) + messages(1, 3) + "lose 4;lose 9;"));
            TurnLine full = Check.lineOf(ONE_MESSAGE);
            for (int frame = 100; frame < 140; frame++) {
                full.lose(frame);
            }
            due("one more than forty", 28, () -> full.delay(0));
        });
        Check.holds(part, "`frame`: 0 to 1999, a number among all frames", () -> {
            due("frame 0", 28, () -> Check.lineOf(ONE_MESSAGE).delay(0));
            due("frame 1999", 0, () -> Check.lineOf(ONE_MESSAGE).delay(1999));
            TurnLine line = new TurnLine();
            runFar(line, 1999);
            line.put(1, 1, 5L);
            due("frame 1999 that is next", 28, () -> line.delay(1999));
            due("frame 1998 that was sent", 0, () -> line.delay(1998));
        });
        Check.holds(part, "Returns the difference (it can be 0, or negative); NONE - 10000 if one "
            + "of both would be NONE.", () -> {
            TurnLine shifted = Check.lineOf(SHIFTED);
            int[] due = {-79, 108, 28, 108, 0, 108, 28, 0};
            for (int f = 0; f < due.length; f++) {
                int frame = f;
                due("delay(" + f + ")", due[f], () -> shifted.delay(frame));
            }
            due("told already", 0, () -> Check.lineOf("line 1 9;message 0 1;lose 0;").delay(0));
            due("nothing to send", 0, () -> new TurnLine().delay(0));
            shifted.run(1);
            due("sent already", 0, () -> shifted.delay(0));
            // nobody reads, but for until(true, ..) all do
            TurnLine stuck = Check.lineOf("line 7 9;window 1 1;message 0 1;message 0 2;");
            due("stuck without reading", 28, () -> stuck.delay(0));
        });
        Check.holds(part, "Throws `IllegalArgumentException` if frame is out of range", () -> {
            int[] numbers = {MIN, -1, 2000, MAX};
            for (int frame : numbers) {
                refusedAlways("delay(" + frame + ")", ARGUMENT, line -> line.delay(frame));
            }
        });
    }

    /** Against what until tells when the frame is really told to be lost. */
    private static void dueDelays(String when, Supplier<TurnLine> made) {
        int before = made.get().until(true, 0);
        TurnLine asked = made.get();
        for (int f = 0; f < FRAMES_TRIED; f++) {
            int frame = f;
            TurnLine line = made.get();
            Check.answer(() -> line.lose(frame));
            due(when + ": delay(" + f + ")", line.until(true, 0) - before, () -> asked.delay(frame));
        }
    }

    private static void worstFrame() {
        String part = "Promise 12";
        Check.holds(part, "Returns the frame with the greatest delay, of all those that would be "
            + "sent until all messages are accepted", () -> {
            due("the only one", 0, () -> Check.lineOf(ONE_MESSAGE).worstFrame());
            due("the last one", 1, () -> Check.lineOf("line 1 1;message 1 1;").worstFrame());
            due("the first one", 0, () -> Check.lineOf("line 1 99;message 1 1;").worstFrame());
            due("not a told one", 2, () ->
                Check.lineOf("line 1 99;message 0 1;lose 0;lose 1;").worstFrame());
            dueWorst("shifted", Check.lineOf(SHIFTED));
            dueWorst("busy", busy());
            dueWorst("young", young());
            for (int windows = 1; windows <= 3; windows++) {
                String narrow = "window 0 " + windows + ";window 1 1;" + messages(0, 4)
                    + messages(1, 5);
                dueWorst("narrow", Check.lineOf("line 2 3;" + narrow));
                dueWorst("narrow, lossy", Check.lineOf("line 7 3;lose 2;lose 3;lose 7;" + narrow));
                dueWorst("narrow, silent", Check.lineOf("line 3 60;lose 0;lose 9;" + narrow));
                TurnLine full = Check.lineOf("line 3 3;" + narrow);
                full.run(2 * windows + 1);
                dueWorst("narrow, with full buffers", full);
            }
            dueWorst("lossy", Check.lineOf("line 7 9;message 0 1;message 0 2;"
                + "lose 0;lose 2;lose 3;lose 4;"));
        });
        Check.holds(part, "(also past the number 1999)", () -> {
            TurnLine line = new TurnLine();
            runFar(line, 1999);
            line.put(1, 1, 5L);
            due("frame 1999", 1999, line::worstFrame);
            line.put(1, 1, 6L);
            line.set(1, 20);
            // a turn costs 9 and the silence, data 9 + 9 + 10
            dueUntil("data, two turns, data", line, 38, 4);
            due("a turn past 1999", 2000, line::worstFrame);
            line.run(1);
            due("a turn past 1999 that is next", 2000, line::worstFrame);
            line.set(1, 19);
            due("as much as data past it", 2000, line::worstFrame);
            line.set(1, 18);
            due("data past 1999, the last one", 2002, line::worstFrame);
        });
        Check.holds(part, "of several the first one;", () -> {
            TurnLine shifted = Check.lineOf(SHIFTED);
            due("frames 1, 3 and 5 delay as much", 1, shifted::worstFrame);
            shifted.run(2);
            due("frames 3 and 5 delay as much", 3, shifted::worstFrame);
            shifted.run(2);
            due("frame 5 delays most", 5, shifted::worstFrame);
        });
        Check.holds(part, "NONE if until(true, 1) is NONE or 0, or if no delay is told.", () -> {
            due("no messages", NONE, () -> new TurnLine().worstFrame());
            TurnLine line = Check.lineOf("line 1 10;window 1 1;message 0 1;message 0 2;");
            line.run(3);
            due("one is left, nobody has read", 5, line::worstFrame);
            line.read(1, 1);
            line.run(3);
            due("all are accepted", 0, () -> line.until(true, 1));
            due("all are accepted", NONE, line::worstFrame);
        });
    }

    /** Against the delays that are told for each frame. */
    private static void dueWorst(String when, TurnLine line) {
        int first = line.next(4);
        int frames = line.until(true, 1);
        int worst = first;
        for (int frame = first; frame < first + frames; frame++) {
            worst = line.delay(frame) > line.delay(worst) ? frame : worst;
        }
        due(when + ": worstFrame()", worst, line::worstFrame);
    }

    private static void bestBurst() {
        String part = "Promise 13";
        Check.holds(part, "Returns the burst, 1 to 7, with which until(true, 0) would be least,",
            () -> {
            for (int messages = 1; messages <= 7; messages++) {
                String text = "line 3 9;window 1 9;" + messages(0, messages);
                due(messages + " messages", messages, () -> Check.lineOf(text).bestBurst());
            }
            TurnLine lossy = Check.lineOf("line 7 9;" + messages(0, 3) + "lose 1;");
            due("a lost one", 2, lossy::bestBurst);
            due("the burst stays", 7, () -> lossy.size(0));
            lossy.run(1);
            due("in the present turn", 2, lossy::bestBurst);
            dueBest("shifted", () -> Check.lineOf(SHIFTED));
            dueBest("busy", Answers::busy);
            dueBest("young", Answers::young);
        });
        Check.holds(part, "of several the lowest;", () -> {
            due("no messages", 1, () -> new TurnLine().bestBurst());
            due("one message", 1, () -> Check.lineOf(ONE_MESSAGE).bestBurst());
            String eight = "line 7 9;window 1 9;" + messages(0, 8);
            due("4 to 7", 4, () -> Check.lineOf(eight).bestBurst());
            due("5 to 7", 5, () -> Check.lineOf(eight + messages(0, 1)).bestBurst());
            TurnLine done = Check.lineOf(ONE_MESSAGE);
            done.run(1);
            due("all are accepted", 1, done::bestBurst);
        });
        Check.holds(part, "NONE if it would be NONE with each one.", () -> {
            // nobody reads, but for until(true, ..) all do
            due("stuck without reading", 1, () ->
                Check.lineOf("line 7 9;window 1 1;" + messages(0, 3)).bestBurst());
        });
    }

    /** Against what until tells when each burst is really set. */
    private static void dueBest(String when, Supplier<TurnLine> made) {
        int best = 1;
        int[] ticks = new int[8];
        for (int burst = 1; burst <= 7; burst++) {
            TurnLine line = made.get();
            line.set(burst, line.size(1));
            ticks[burst] = line.until(true, 0);
            best = ticks[burst] < ticks[best] ? burst : best;
        }
        due(when + ": bestBurst()", best, () -> made.get().bestBurst());
    }

    private static void account() {
        String part = "Promise 14";
        Check.holds(part, "`what`: 0 frames, 1 lost frames, 2 frames of data, 3 of these such "
            + "whose message had been sent before, 4 turns, 5 turns that were sent once more, 6 "
            + "bytes on the line, 7 of these such that are 125 for an escape, 8 ticks of silence, "
            + "9 useless frames of data", () -> {
            TurnLine line = Check.lineOf(
                "line 2 10;message 0 1 2 3;message 0 4;message 1 126 125;lose 0;lose 2;");
            dueAccounts("at first", line, 0, 0, 0, 0, 0, 0, 0, 0, 0, 0);
            line.run(1);
            dueAccounts("lost data", line, 1, 1, 1, 0, 0, 0, 12, 0, 0, 0);
            line.run(1);
            dueAccounts("useless data", line, 2, 1, 2, 0, 0, 0, 22, 0, 0, 1);
            line.run(1);
            dueAccounts("a lost turn", line, 3, 2, 2, 0, 1, 0, 31, 0, 10, 1);
            line.run(1);
            dueAccounts("the turn once more", line, 4, 2, 2, 0, 2, 1, 40, 0, 10, 1);
            line.run(1);
            dueAccounts("escapes", line, 5, 2, 3, 0, 2, 1, 53, 2, 10, 1);
            line.run(3);
            dueAccounts("data once more", line, 8, 2, 5, 2, 3, 1, 84, 2, 10, 1);
            TurnLine bytes = Check.lineOf("line 3 20;message 0 125 93;");
            bytes.run(1);
            due("one 125 that is an escape", 1, () -> bytes.account(7));
        });
        Check.holds(part, "Returns the number since parse.", () -> {
            TurnLine line = busyWithoutText();
            Check.parse(line, "lines");
            due("a syntax error changes nothing", 9, () -> line.account(0));
            Check.parse(line, "line 3 20;");
            dueAccounts("a new line", line, 0, 0, 0, 0, 0, 0, 0, 0, 0, 0);
        });
        Check.holds(part, OUT_OF_RANGE, () -> {
            int[] numbers = {MIN, -1, 10, MAX};
            for (int what : numbers) {
                refusedAlways("account(" + what + ")", ARGUMENT, line -> line.account(what));
            }
        });
    }

    private static void efficiency() {
        String part = "Promise 15";
        Check.holds(part, "Returns the bytes of all accepted messages, converted to double, "
            + "divided by the bytes on the line;", () -> {
            TurnLine line = Check.lineOf("line 1 10;message 0 1 2 3;message 0 4;message 1 5;lose 0;");
            line.run(1);
            due("lost", 0.0, line::efficiency);
            line.run(2);
            due("one byte of station 1", 1.0 / 31, line::efficiency);
            line.run(2);
            due("and three of station 0", 4.0 / 52, line::efficiency);
            line.put(0, 8, 0L);
            due("what is put is not accepted", 4.0 / 52, line::efficiency);
            line.run(3);
            due("all three", 5.0 / 80, line::efficiency);
            TurnLine eight = Check.lineOf("line 1 10;message 0" + " 7".repeat(8) + ";lose 1;");
            eight.run(1);
            due("eight bytes", 8.0 / 17, eight::efficiency);
            eight.run(1);
            due("the silence does not count", 8.0 / 26, eight::efficiency);
        });
        Check.holds(part, "0.0 without any.", () -> {
            due("nothing was sent", 0.0, () -> new TurnLine().efficiency());
            due("nothing was sent yet", 0.0, () -> Check.lineOf(ONE_MESSAGE).efficiency());
            TurnLine line = new TurnLine();
            line.run(1);
            due("nothing was accepted", 0.0, line::efficiency);
            line.undo();
            due("the frame was undone", 0.0, line::efficiency);
        });
    }
}
