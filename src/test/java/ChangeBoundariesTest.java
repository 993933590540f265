import java.util.ArrayList;
import java.util.LinkedHashMap;
import java.util.List;
import java.util.Map;
import java.util.function.BiFunction;
import java.util.function.Function;
import java.util.function.Supplier;

/** The boundary cases of the part CHANGES of the terms, and of promises 16 to 25. */
public final class ChangeBoundariesTest extends Answers {
    private static final String NO_STATION =
        "Throws `IndexOutOfBoundsException` if there is no such station (checked first)";
    private static final String MANY_OUT_OF_RANGE =
        "Throws `IllegalArgumentException` if many is out of range (checked second)";
    private static final int[] NO_STATIONS = {MIN, -1, 2, MAX};

    private ChangeBoundariesTest() {
    }

    public static void main(String[] args) {
        changes();
        throwing();
        put();
        read();
        askBack();
        grow();
        lose();
        set();
        run();
        undo();
        saveSnapshot();
        restoreSnapshot();
        Check.end("ChangeBoundariesTest");
    }

    private static String messages(int station, int many) {
        return ("message " + station + " 1;").repeat(many);
    }

    /** Refused with a full undo history and with one that has room, and all is as before. */
    private static void refusedAlways(String name, Object want, Function<TurnLine, Object> call) {
        refused(name, want, Answers::busy, call);
        refused(name, want, Answers::young, call);
    }

    /** One of each, which the young and the busy line take, also one after the other. */
    private static Map<String, Function<TurnLine, Object>> oneOfEach() {
        Map<String, Function<TurnLine, Object>> calls = new LinkedHashMap<>();
        calls.put("put", line -> line.put(0, 3, 0x7e0102L));
        calls.put("read", line -> line.read(1, 1));
        // the station that does not want capacity back
        calls.put("grow", line -> line.grow(line.station(0, 4) > 0 ? 1 : 0, 1));
        calls.put("askBack", line -> line.askBack(1, 1));
        calls.put("lose", line -> line.lose(123));
        calls.put("set", line -> line.set(1, 1));
        calls.put("run", line -> line.run(5));
        return calls;
    }

    private static TurnLine changed(TurnLine line, Function<TurnLine, Object> change) {
        change.apply(line);
        return line;
    }

    /** The call succeeds with both stations, and changes this number of that one alone. */
    private static void bothStations(String part, int what, int change,
            BiFunction<TurnLine, Integer, Object> call) {
        Check.holds(part, "`station`: 0 or 1", () -> {
            for (int i = 0; i < 2; i++) {
                int station = i;
                TurnLine line = Check.lineOf("line 2 9;message 0 1;message 1 1;");
                line.run(3);
                int own = line.station(station, what);
                int others = line.station(1 - station, what);
                call.apply(line, station);
                due("of station " + i, own + change, () -> line.station(station, what));
                due("beside station " + i, others, () -> line.station(1 - station, what));
            }
        });
    }

    private static void changes() {
        String part = "Terms";
        Check.holds(part, "The methods from put to run are changes if they succeed, also if they "
            + "alter nothing.", () -> {
            oneOfEach().forEach((name, change) -> {
                TurnLine line = changed(young(), change);
                due("after " + name, 4, () -> line.size(6));
                due("undo of " + name, 3, line::undo);
            });
            TurnLine line = new TurnLine();
            due("the same burst and silence", 3, () -> line.set(3, 20));
            due("is a change", 1, () -> line.size(6));
            due("that can be undone", 0, line::undo);
            due("once", NONE, line::undo);
        });
        Check.holds(part, "The latest 10 changes can be undone, the latest first.", () -> {
            for (int many = 9; many <= 12; many++) {
                latestTen(many);
            }
            latestTen(25);
        });
        Check.holds(part, "There are two snapshot slots, 0 and 1; a snapshot holds everything "
            + "that changes can change, the accounts, too.", () -> {
            for (int i = 0; i < 2; i++) {
                int slot = i;
                Look.sameNow("restored", Answers::busy, () -> wayAndBack(busy(), slot));
                Look.sameNow("restored", Answers::young, () -> wayAndBack(young(), slot));
            }
            TurnLine line = new TurnLine();
            due("slot 2", false, () -> line.saveSnapshot(2));
            due("slot -1", false, () -> line.saveSnapshot(-1));
        });
        Check.holds(part, "A successful parse begins anew, clears the undo history and empties "
            + "both slots.", () -> {
            String text = "line 7 70;window 0 5;message 1 5 6;lose 3;";
            Look.same("a line anew", () -> Check.lineOf(text), () -> {
                TurnLine line = busyWithoutText();
                Check.parse(line, text);
                return line;
            });
            TurnLine line = busyWithoutText();
            due("the slots are full", true, () -> line.restoreSnapshot(0) && line.restoreSnapshot(1));
            line.set(1, 1);
            Check.parse(line, "line 7 70;");
            due("slot 0", false, () -> line.restoreSnapshot(0));
            due("slot 1", false, () -> line.restoreSnapshot(1));
            due("the history", NONE, line::undo);
            due("the frames that can be sent", 2000, () -> {
                runFar(line, 2000);
                return line.account(0);
            });
        });
    }

    /** So many changes, of which ten at most can be undone: each silence is told by its change. */
    private static void latestTen(int many) {
        TurnLine line = new TurnLine();
        for (int n = 1; n <= many; n++) {
            line.set(1 + n % 7, n);
        }
        int kept = Math.min(many, 10);
        due(many + " changes", kept, () -> line.size(6));
        for (int n = 1; n <= kept; n++) {
            int before = many - n;
            due("undo " + n + " of " + many, kept - n, line::undo);
            due("the silence", before == 0 ? 20 : before, () -> line.size(1));
            due("the burst", before == 0 ? 3 : 1 + before % 7, () -> line.size(0));
        }
        due("no more of " + many, NONE, line::undo);
        due("the silence stays", many == kept ? 20 : many - kept, () -> line.size(1));
    }

    /** Saves, changes all that can be changed, and restores. */
    private static TurnLine wayAndBack(TurnLine line, int slot) {
        line.saveSnapshot(slot);
        for (Function<TurnLine, Object> change : oneOfEach().values()) {
            change.apply(line);
        }
        line.run(30);
        line.put(1, 8, -1L);
        line.saveSnapshot(1 - slot);
        line.undo();
        line.restoreSnapshot(slot);
        return line;
    }

    private static void throwing() {
        Check.holds("Terms", "A method that throws an exception changes nothing.", () -> {
            refusedAlways("parse(-1)", ARGUMENT, line -> line.parse(-1));
            refusedAlways("parse(60)", ARGUMENT, line -> line.parse(60));
            refusedAlways("size(7)", ARGUMENT, line -> line.size(7));
            refusedAlways("station(2, 0)", INDEX, line -> line.station(2, 0));
            refusedAlways("station(0, 10)", ARGUMENT, line -> line.station(0, 10));
            refusedAlways("messageByte(0, 9, 0)", INDEX, line -> line.messageByte(0, 9, 0));
            refusedAlways("next(6)", ARGUMENT, line -> line.next(6));
            refusedAlways("until(true, 2)", ARGUMENT, line -> line.until(true, 2));
            refusedAlways("delay(2000)", ARGUMENT, line -> line.delay(2000));
            refusedAlways("account(10)", ARGUMENT, line -> line.account(10));
            refusedAlways("put(2, 1, 5)", INDEX, line -> line.put(2, 1, 5L));
            refusedAlways("put(0, 9, 5)", ARGUMENT, line -> line.put(0, 9, 5L));
            refusedAlways("read(2, 1)", INDEX, line -> line.read(2, 1));
            refusedAlways("read(1, 21)", ARGUMENT, line -> line.read(1, 21));
            refusedAlways("read(1, 9)", STATE, line -> line.read(1, 9));
            refusedAlways("askBack(2, 1)", INDEX, line -> line.askBack(2, 1));
            refusedAlways("askBack(1, 10)", ARGUMENT, line -> line.askBack(1, 10));
            refusedAlways("askBack(1, 9)", STATE, line -> line.askBack(1, 9));
            refusedAlways("grow(2, 1)", INDEX, line -> line.grow(2, 1));
            refusedAlways("grow(0, 10)", ARGUMENT, line -> line.grow(0, 10));
            refusedAlways("grow(0, 9)", STATE, line -> line.grow(0, 9));
            refusedAlways("lose(2000)", ARGUMENT, line -> line.lose(2000));
            refusedAlways("lose(0)", STATE, line -> line.lose(0));
            refusedAlways("set(8, 1)", ARGUMENT, line -> line.set(8, 1));
            refusedAlways("set(1, 100)", ARGUMENT, line -> line.set(1, 100));
            refusedAlways("run(101)", ARGUMENT, line -> line.run(101));
            refused("run(100)", STATE, () -> changed(farLine(1900), line -> line.run(1)),
                line -> line.run(100));
        });
    }

    /** So many frames were sent, all of them turns; four changes can be undone, one slot is full. */
    private static TurnLine farLine(int frames) {
        TurnLine line = new TurnLine();
        runFar(line, frames);
        line.saveSnapshot(0);
        for (int n = 0; n < 6; n++) {
            line.undo();
        }
        runFar(line, frames - line.account(0));
        return line;
    }

    private static void put() {
        String part = "Promise 16";
        Check.holds(part, "Puts a message into the list of a station, as the last one.", () -> {
            TurnLine line = Check.lineOf(ONE_MESSAGE);
            line.put(0, 1, 2L);
            line.put(0, 1, 3L);
            due("the first", 1, () -> line.messageByte(0, 0, 0));
            due("the last but one", 2, () -> line.messageByte(0, 1, 0));
            due("the last", 3, () -> line.messageByte(0, 2, 0));
            due("nothing for the other", 0, () -> line.station(1, 0));
        });
        bothStations(part, 0, 1, (line, station) -> line.put(station, 1, 5L));
        Check.holds(part, "`length`: 1 to 8", () -> {
            TurnLine line = new TurnLine();
            for (int n = 1; n <= 8; n++) {
                int length = n;
                due("put of " + n, n - 1, () -> line.put(1, length, 0x0807060504030201L));
                due("its last byte", n, () -> line.messageByte(1, length - 1, length - 1));
                due("past it", NONE, () -> line.messageByte(1, length - 1, length));
            }
        });
        Check.holds(part, "`bytes`: its bytes: the first one in the lowest eight bits, and so on; "
            + "what is above the length does not matter", () -> {
            dueBytes(8, 0xfe34567890abcdefL, 0xef, 0xcd, 0xab, 0x90, 0x78, 0x56, 0x34, 0xfe);
            dueBytes(8, -1L, 255, 255, 255, 255, 255, 255, 255, 255);
            dueBytes(8, Long.MIN_VALUE, 0, 0, 0, 0, 0, 0, 0, 128);
            dueBytes(5, 0xfe34567890abcdefL, 0xef, 0xcd, 0xab, 0x90, 0x78);
            dueBytes(4, -1L, 255, 255, 255, 255);
            dueBytes(1, 0xfe34567890abcd00L, 0);
            dueBytes(1, -1L, 255);
            Look.same("the same bytes", () -> changed(young(), line -> line.put(0, 2, 0x1234L)),
                () -> changed(young(), line -> line.put(0, 2, 0xffffffffffff1234L)));
        });
        Check.holds(part, "Returns its number.", () -> {
            TurnLine line = new TurnLine();
            for (int n = 0; n < 20; n++) {
                int number = n;
                due("put " + n, n, () -> line.put(0, 1, number));
            }
            due("the first of the other", 0, () -> line.put(1, 1, 5L));
        });
        Check.holds(part, NO_STATION, () -> {
            for (int station : NO_STATIONS) {
                refusedAlways("put(" + station + ", 1, 5)", INDEX, line -> line.put(station, 1, 5L));
                refusedAlways("put(" + station + ", 0, 5)", INDEX, line -> line.put(station, 0, 5L));
                refusedAlways("put(" + station + ", 9, 5)", INDEX, line -> line.put(station, 9, 5L));
                refused("put(" + station + ", 1, 5) of full lists", INDEX,
                    ChangeBoundariesTest::fullLists, line -> line.put(station, 1, 5L));
            }
        });
        Check.holds(part, "Throws `IllegalArgumentException` if length is out of range (checked "
            + "second)", () -> {
            int[] lengths = {MIN, -1, 0, 9, 16, MAX};
            for (int length : lengths) {
                refusedAlways("put(0, " + length + ", 5)", ARGUMENT,
                    line -> line.put(0, length, 5L));
                refused("put(0, " + length + ", 5) of full lists", ARGUMENT,
                    ChangeBoundariesTest::fullLists, line -> line.put(0, length, 5L));
            }
        });
        Check.holds(part, "Throws `IllegalStateException` if the station has 20 messages", () -> {
            refused("the 21st", STATE, ChangeBoundariesTest::fullLists, line -> line.put(0, 1, 5L));
            refused("the 21st of 1", STATE, ChangeBoundariesTest::fullLists,
                line -> line.put(1, 8, 5L));
            TurnLine line = Check.lineOf("line 3 20;" + messages(1, 19));
            due("the 20th", 19, () -> line.put(1, 1, 5L));
            due("the 21st", STATE, () -> line.put(1, 1, 5L));
            // accepted and read ones are still in the list
            line.run(6);
            line.read(0, 3);
            due("the 21st later", STATE, () -> line.put(1, 1, 5L));
            due("the other's first", 0, () -> line.put(0, 1, 5L));
            line.undo();
            line.undo();
            line.undo();
            line.undo();
            due("the 20th is undone", 19, () -> line.put(1, 1, 5L));
        });
    }

    private static void dueBytes(int length, long bytes, int... want) {
        TurnLine line = new TurnLine();
        line.put(1, length, bytes);
        for (int i = 0; i < want.length; i++) {
            int k = i;
            due("byte " + i + " of " + bytes, want[i], () -> line.messageByte(1, 0, k));
        }
        due("past the bytes of " + bytes, NONE, () -> line.messageByte(1, 0, want.length));
    }

    private static TurnLine fullLists() {
        TurnLine line = Check.lineOf("line 3 20;" + messages(0, 20) + messages(1, 19));
        line.put(1, 1, 5L);
        line.run(2);
        return line;
    }

    private static void read() {
        String part = "Promise 17";
        Supplier<TurnLine> nine = () -> {
            TurnLine line = Check.lineOf("line 7 20;window 1 9;" + messages(0, 12));
            line.run(11);
            return line;
        };
        Check.holds(part, "Lets the host of a station read messages.", () -> {
            TurnLine line = nine.get();
            line.read(1, 2);
            dueStation("read", line, 1, 0, 9, 2, 9, 0, 0, 0, 4);
            due("the other does not know it", 9, () -> line.station(0, 7));
            line.run(2);
            due("the other knows it", 11, () -> line.station(0, 7));
        });
        bothStations(part, 2, 1, (line, station) -> line.read(station, 1));
        Check.holds(part, "`many`: 1 to 20", () -> {
            due("one", 8, () -> nine.get().read(1, 1));
            due("all", 0, () -> nine.get().read(1, 9));
            // in range, but a buffer never holds so many
            due("twenty", STATE, () -> nine.get().read(1, 20));
            due("twenty-one", ARGUMENT, () -> nine.get().read(1, 21));
        });
        Check.holds(part, "Returns the number of messages in the buffer then.", () -> {
            TurnLine line = nine.get();
            due("eight", 8, () -> line.read(1, 1));
            due("six", 6, () -> line.read(1, 2));
            due("none", 0, () -> line.read(1, 6));
        });
        Check.holds(part, NO_STATION, () -> {
            for (int station : NO_STATIONS) {
                refusedAlways("read(" + station + ", 1)", INDEX, line -> line.read(station, 1));
                refusedAlways("read(" + station + ", 0)", INDEX, line -> line.read(station, 0));
                refusedAlways("read(" + station + ", 21)", INDEX, line -> line.read(station, 21));
            }
        });
        Check.holds(part, MANY_OUT_OF_RANGE, () -> {
            int[] numbers = {MIN, -1, 0, 21, MAX};
            for (int many : numbers) {
                refusedAlways("read(1, " + many + ")", ARGUMENT, line -> line.read(1, many));
                refused("read(0, " + many + ") of none", ARGUMENT, TurnLine::new,
                    line -> line.read(0, many));
            }
        });
        Check.holds(part, "Throws `IllegalStateException` if there are not so many in the buffer",
            () -> {
            refused("ten of nine", STATE, nine, line -> line.read(1, 10));
            refused("one of none", STATE, nine, line -> line.read(0, 1));
            refused("one of none", STATE, TurnLine::new, line -> line.read(0, 1));
            refused("two of one", STATE, Answers::busy, line -> line.read(1, 2));
            refused("four of three", STATE, () -> changed(nine.get(), line -> line.read(1, 6)),
                line -> line.read(1, 4));
            due("three of three", 0, () -> changed(nine.get(), line -> line.read(1, 6)).read(1, 3));
        });
    }

    private static void askBack() {
        String part = "Promise 18";
        String text = "line 3 20;window 0 9;window 1 1;";
        Check.holds(part, "Lets a station want capacity back.", () -> {
            TurnLine line = Check.lineOf(text);
            line.askBack(0, 3);
            dueStation("wanted", line, 0, 0, 0, 0, 9, 3, 0);
            dueStation("the other", line, 1, 0, 0, 0, 1, 0, 0, 0, 9);
        });
        bothStations(part, 4, 2, (line, station) -> line.askBack(station, 2));
        Check.holds(part, "`many`: 1 to 9", () -> {
            due("one", 1, () -> Check.lineOf(text).askBack(0, 1));
            due("eight", 8, () -> Check.lineOf(text).askBack(0, 8));
            // in range, but no capacity is so great
            due("nine", STATE, () -> Check.lineOf(text).askBack(0, 9));
            due("ten", ARGUMENT, () -> Check.lineOf(text).askBack(0, 10));
        });
        Check.holds(part, "Returns its wanted then.", () -> {
            TurnLine line = Check.lineOf(text);
            due("one", 1, () -> line.askBack(0, 1));
            due("three", 3, () -> line.askBack(0, 2));
            due("eight", 8, () -> line.askBack(0, 5));
        });
        Check.holds(part, NO_STATION, () -> {
            for (int station : NO_STATIONS) {
                refusedAlways("askBack(" + station + ", 1)", INDEX, x -> x.askBack(station, 1));
                refusedAlways("askBack(" + station + ", 0)", INDEX, x -> x.askBack(station, 0));
                refusedAlways("askBack(" + station + ", 10)", INDEX, x -> x.askBack(station, 10));
            }
        });
        Check.holds(part, MANY_OUT_OF_RANGE, () -> {
            int[] numbers = {MIN, -1, 0, 10, MAX};
            for (int many : numbers) {
                refusedAlways("askBack(1, " + many + ")", ARGUMENT, line -> line.askBack(1, many));
                refused("askBack(1, " + many + ") of one", ARGUMENT, () -> Check.lineOf(text),
                    line -> line.askBack(1, many));
            }
        });
        Check.holds(part, "Throws `IllegalStateException` if less than 1 of its capacity would be "
            + "left without what is wanted then", () -> {
            refused("one of one", STATE, () -> Check.lineOf(text), line -> line.askBack(1, 1));
            refused("nine of nine", STATE, () -> Check.lineOf(text), line -> line.askBack(0, 9));
            Supplier<TurnLine> wants = () -> changed(Check.lineOf(text), x -> x.askBack(0, 6));
            refused("three beside six of nine", STATE, wants, line -> line.askBack(0, 3));
            due("two beside six of nine", 8, () -> wants.get().askBack(0, 2));
            refused("four of five, one is wanted", STATE, Answers::busy, x -> x.askBack(1, 4));
            due("three of five, one is wanted", 4, () -> busy().askBack(1, 3));
            // six were returned: three are left
            Supplier<TurnLine> less = () -> changed(wants.get(), line -> line.run(2));
            refused("three of three", STATE, less, line -> line.askBack(0, 3));
            due("two of three", 2, () -> less.get().askBack(0, 2));
        });
    }

    private static void grow() {
        String part = "Promise 19";
        String text = "line 3 20;window 0 1;window 1 8;";
        Check.holds(part, "Gives a station more capacity.", () -> {
            TurnLine line = Check.lineOf(text);
            line.grow(0, 3);
            dueStation("grown", line, 0, 0, 0, 0, 4, 0, 0, 0, 8);
            due("the other does not know it", 1, () -> line.station(1, 7));
            line.run(1);
            due("the other knows it", 4, () -> line.station(1, 7));
        });
        bothStations(part, 3, 5, (line, station) -> line.grow(station, 5));
        Check.holds(part, "`many`: 1 to 9", () -> {
            due("one", 2, () -> Check.lineOf(text).grow(0, 1));
            due("eight", 9, () -> Check.lineOf(text).grow(0, 8));
            // in range, but then the capacity is too great
            due("nine", STATE, () -> Check.lineOf(text).grow(0, 9));
            due("ten", ARGUMENT, () -> Check.lineOf(text).grow(0, 10));
        });
        Check.holds(part, "Returns its capacity then.", () -> {
            TurnLine line = Check.lineOf(text);
            due("three", 3, () -> line.grow(0, 2));
            due("four", 4, () -> line.grow(0, 1));
            due("nine", 9, () -> line.grow(1, 1));
        });
        Check.holds(part, NO_STATION, () -> {
            for (int station : NO_STATIONS) {
                refusedAlways("grow(" + station + ", 1)", INDEX, line -> line.grow(station, 1));
                refusedAlways("grow(" + station + ", 0)", INDEX, line -> line.grow(station, 0));
                refusedAlways("grow(" + station + ", 10)", INDEX, line -> line.grow(station, 10));
            }
        });
        Check.holds(part, MANY_OUT_OF_RANGE, () -> {
            int[] numbers = {MIN, -1, 0, 10, MAX};
            for (int many : numbers) {
                // the first wants capacity back, the second has none to grow by
                refused("grow(1, " + many + ")", ARGUMENT, Answers::busy, x -> x.grow(1, many));
                refused("grow(1, " + many + ") of nine", ARGUMENT,
                    () -> changed(Check.lineOf(text), line -> line.grow(1, 1)),
                    line -> line.grow(1, many));
            }
        });
        Check.holds(part, "Throws `IllegalStateException` if the capacity would be greater than 9,",
            () -> {
            refused("to ten", STATE, () -> Check.lineOf(text), line -> line.grow(1, 2));
            refused("to seventeen", STATE, () -> Check.lineOf(text), line -> line.grow(1, 9));
            refused("one to ten", STATE, () -> Check.lineOf(text), line -> line.grow(0, 9));
            due("to nine", 9, () -> Check.lineOf(text).grow(1, 1));
            refused("nine to ten", STATE,
                () -> changed(Check.lineOf(text), line -> line.grow(1, 1)), line -> line.grow(1, 1));
        });
        Check.holds(part, "or it wants capacity back", () -> {
            Supplier<TurnLine> wants = () -> changed(Check.lineOf(text), x -> x.askBack(1, 1));
            refused("it wants one", STATE, wants, line -> line.grow(1, 1));
            refused("it wants one, and more than nine", STATE, wants, line -> line.grow(1, 9));
            due("the other does not want", 2, () -> wants.get().grow(0, 1));
            Supplier<TurnLine> told = () -> changed(wants.get(), line -> line.run(2));
            due("it was returned", 1, () -> told.get().station(0, 5));
            refused("it does not know that", STATE, told, line -> line.grow(1, 1));
            due("now it knows", 8, () -> changed(told.get(), line -> line.run(1)).grow(1, 1));
        });
    }

    private static void lose() {
        String part = "Promise 20";
        Check.holds(part, "Tells that a frame will be lost.", () -> {
            TurnLine line = Check.lineOf(ONE_MESSAGE);
            line.lose(0);
            due("it is told", true, () -> line.isTold(0));
            due("it will be lost", 1, () -> line.next(5));
            line.run(1);
            due("it was lost", 1, () -> line.account(1));
            due("not accepted", 0, () -> line.station(1, 1));
        });
        Check.holds(part, "`frame`: 0 to 1999, a number among all frames", () -> {
            TurnLine line = new TurnLine();
            due("frame 0", 1, () -> line.lose(0));
            due("frame 500", 2, () -> line.lose(500));
            due("frame 1999", 3, () -> line.lose(1999));
            due("frame 2000", ARGUMENT, () -> line.lose(2000));
            due("it is told", true, () -> line.isTold(1999));
        });
        Check.holds(part, "Returns the number of frames that are told to be lost then.", () -> {
            TurnLine line = Check.lineOf("line 3 20;lose 0;lose 300;");
            line.run(2);
            for (int told = 3; told <= 40; told++) {
                int frame = told;
                due("past ones, too", told, () -> line.lose(frame));
            }
            line.undo();
            due("one was undone", 40, () -> line.lose(1000));
        });
        Check.holds(part, "Throws `IllegalArgumentException` if frame is out of range (checked "
            + "first)", () -> {
            int[] numbers = {MIN, -1, 2000, MAX};
            for (int frame : numbers) {
                refusedAlways("lose(" + frame + ")", ARGUMENT, line -> line.lose(frame));
                refused("lose(" + frame + ") of forty", ARGUMENT, () -> fortyTold(40),
                    line -> line.lose(frame));
            }
            refused("lose(2000) of 2000", ARGUMENT, () -> farLine(2000), line -> line.lose(2000));
        });
        Check.holds(part, "Throws `IllegalStateException` if it was sent or told already, or 40 "
            + "are told", () -> {
            // the busy line has sent the frames 0 to 8, and 9 is told
            refused("the first one", STATE, Answers::busy, line -> line.lose(0));
            refused("told and sent", STATE, Answers::busy, line -> line.lose(8));
            refused("told and next", STATE, Answers::busy, line -> line.lose(9));
            refused("told by lose", STATE, Answers::busy, line -> line.lose(50));
            due("the one behind it", 7, () -> busy().lose(10));
            due("the next one", 3, () -> young().lose(young().next(4)));
            refused("the one before it", STATE, Answers::young, line -> line.lose(2));
            refused("frame 1999", STATE, () -> farLine(2000), line -> line.lose(1999));
            due("frame 1999 that is next", 1, () -> farLine(1999).lose(1999));
            due("the fortieth", 40, () -> fortyTold(39).lose(77));
            refused("one more than forty", STATE, () -> fortyTold(40), line -> line.lose(77));
            refused("past ones, too", STATE, () -> changed(fortyTold(40), line -> line.run(100)),
                line -> line.lose(1999));
        });
    }

    /** Twenty are told by the text, the others by lose. */
    private static TurnLine fortyTold(int told) {
        StringBuilder text = new StringBuilder("line 3 20;");
        for (int n = 0; n < 20; n++) {
            text.append("lose ").append(2 * n).append(";");
        }
        TurnLine line = Check.lineOf(text.toString());
        for (int n = 20; n < told; n++) {
            line.lose(1000 + n);
        }
        return line;
    }

    private static void set() {
        String part = "Promise 21";
        Check.holds(part, "Sets burst and silence; the present turn goes on with them.", () -> {
            TurnLine line = Check.lineOf("line 1 20;" + messages(0, 4) + "lose 3;lose 4;");
            line.run(1);
            due("the burst is used up", 1, () -> line.next(0));
            line.set(2, 5);
            due("one more", 0, () -> line.next(0));
            line.set(1, 5);
            due("none again", 1, () -> line.next(0));
            line.set(7, 5);
            line.run(1);
            line.set(1, 6);
            dueNext("less than was sent", line, 1, 0, 0);
            due("so many were sent all the same", 2, () -> line.size(4));
            line.set(7, 7);
            dueNext("the third one", line, 0, 0, 2);
            line.run(1);
            line.set(2, 99);
            due("a lost turn", 30 + 9 + 99, () -> line.run(1));
            line.set(7, 1);
            due("no data before it arrives", 1, () -> line.next(0));
            due("another lost turn", 138 + 9 + 1, () -> line.run(1));
        });
        Check.holds(part, "`burst`: 1 to 7", () -> {
            TurnLine line = new TurnLine();
            line.set(1, 20);
            due("burst 1", 1, () -> line.size(0));
            line.set(7, 20);
            due("burst 7", 7, () -> line.size(0));
        });
        Check.holds(part, "`silence`: 1 to 99", () -> {
            TurnLine line = new TurnLine();
            line.set(3, 1);
            due("silence 1", 1, () -> line.size(1));
            line.set(3, 99);
            due("silence 99", 99, () -> line.size(1));
        });
        Check.holds(part, "Returns the previous burst.", () -> {
            TurnLine line = new TurnLine();
            due("3", 3, () -> line.set(7, 99));
            due("7", 7, () -> line.set(1, 1));
            due("1", 1, () -> line.set(1, 1));
            due("1 again", 1, () -> line.set(4, 1));
        });
        Check.holds(part, "Throws `IllegalArgumentException` if one of both is out of range", () -> {
            int[] bursts = {MIN, -1, 0, 8, MAX};
            for (int burst : bursts) {
                refusedAlways("set(" + burst + ", 20)", ARGUMENT, line -> line.set(burst, 20));
                refusedAlways("set(" + burst + ", 0)", ARGUMENT, line -> line.set(burst, 0));
            }
            int[] silences = {MIN, -1, 0, 100, MAX};
            for (int silence : silences) {
                refusedAlways("set(5, " + silence + ")", ARGUMENT, line -> line.set(5, silence));
            }
        });
    }

    private static void run() {
        String part = "Promise 22";
        Check.holds(part, "Does so many steps.", () -> {
            TurnLine one = young();
            TurnLine many = young();
            for (int n = 0; n < 37; n++) {
                one.run(1);
            }
            many.run(37);
            for (int i = 0; i < 10; i++) {
                int what = i;
                due("account " + i, one.account(i), () -> many.account(what));
                due("station 0, " + i, one.station(0, i), () -> many.station(0, what));
                due("station 1, " + i, one.station(1, i), () -> many.station(1, what));
            }
            due("one change", 4, () -> many.size(6));
        });
        Check.holds(part, "`steps`: 1 to 100", () -> {
            TurnLine line = new TurnLine();
            line.run(1);
            due("one", 1, () -> line.account(0));
            line.run(100);
            due("a hundred", 101, () -> line.account(0));
        });
        Check.holds(part, "Returns the time then.", () -> {
            TurnLine line = Check.lineOf("line 1 30;message 0 125;lose 1;");
            due("data with an escape", 11, () -> line.run(1));
            due("a lost turn", 11 + 9 + 30, () -> line.run(1));
            due("two turns", 50 + 18, () -> line.run(2));
        });
        Check.holds(part, "Throws `IllegalArgumentException` if steps is out of range (checked "
            + "first)", () -> {
            int[] numbers = {MIN, -1, 0, 101, MAX};
            for (int steps : numbers) {
                refusedAlways("run(" + steps + ")", ARGUMENT, line -> line.run(steps));
                refused("run(" + steps + ") at 2000", ARGUMENT, () -> farLine(2000),
                    line -> line.run(steps));
            }
        });
        Check.holds(part, "Throws `IllegalStateException` if more than 2000 frames would be sent "
            + "altogether", () -> {
            refused("run(1) at 2000", STATE, () -> farLine(2000), line -> line.run(1));
            refused("run(100) at 2000", STATE, () -> farLine(2000), line -> line.run(100));
            refused("run(2) at 1999", STATE, () -> farLine(1999), line -> line.run(2));
            refused("run(100) at 1901", STATE, () -> farLine(1901), line -> line.run(100));
            TurnLine line = farLine(1901);
            line.run(99);
            due("99 at 1901", 2000, () -> line.account(0));
            line.undo();
            line.run(98);
            line.run(1);
            due("98 and 1 at 1901", 2000, () -> line.account(0));
            due("a hundred at 1900", 2000, () ->
                changed(farLine(1900), x -> x.run(100)).account(0));
            line.restoreSnapshot(0);
            due("as many as were sent then", 1901, () -> line.account(0));
            line.run(1);
        });
    }

    private static void undo() {
        String part = "Promise 23";
        Check.holds(part, "Undoes the latest change that has not been undone.", () -> {
            oneOfEach().forEach((name, change) -> {
                Look.same("undo of " + name, Answers::young,
                    () -> changed(changed(young(), change), TurnLine::undo));
                Look.sameNow("undo of " + name, Answers::busy,
                    () -> changed(changed(busy(), change), TurnLine::undo));
            });
            undoAndChange();
        });
        Check.holds(part, "Returns the number of changes that can still be undone; NONE if there "
            + "was none to undo.", () -> {
            TurnLine line = young();
            due("two are left", 2, line::undo);
            due("one is left", 1, line::undo);
            due("none is left", 0, line::undo);
            due("there was none", NONE, line::undo);
            refused("undo of a new line", NONE, TurnLine::new, TurnLine::undo);
            refused("undo when all was undone", NONE, () -> {
                TurnLine all = young();
                all.undo();
                all.undo();
                all.undo();
                return all;
            }, TurnLine::undo);
            refused("undo behind a restored snapshot", NONE,
                () -> changed(busy(), x -> x.restoreSnapshot(1)), TurnLine::undo);
            TurnLine full = busy();
            for (int left = 9; left >= 0; left--) {
                due("left of ten", left, full::undo);
            }
            due("none of ten", NONE, full::undo);
        });
    }

    /** Changes behind an undo take the place of what was undone. */
    private static void undoAndChange() {
        TurnLine line = new TurnLine();
        List<Integer> silences = new ArrayList<>(List.of(20));
        int left = 0;
        for (int n = 1; n <= 60; n++) {
            if (n % 3 == 0) {
                line.undo();
                silences.remove(silences.size() - 1);
                left--;
            } else {
                line.set(3, n);
                silences.add(n);
                left = Math.min(10, left + 1);
            }
            due("the silence", silences.get(silences.size() - 1), () -> line.size(1));
        }
        due("what is left", left, () -> line.size(6));
        while (left > 0) {
            left--;
            due("what is left", left, line::undo);
            silences.remove(silences.size() - 1);
            due("the silence", silences.get(silences.size() - 1), () -> line.size(1));
        }
        due("no more", NONE, line::undo);
    }

    private static void saveSnapshot() {
        String part = "Promise 24";
        Check.holds(part, "Saves a snapshot, in place of what the slot held before.", () -> {
            TurnLine line = new TurnLine();
            line.saveSnapshot(0);
            line.saveSnapshot(1);
            line.set(7, 77);
            line.saveSnapshot(0);
            line.set(5, 55);
            line.restoreSnapshot(0);
            due("the latest", 77, () -> line.size(1));
            line.restoreSnapshot(1);
            due("the other slot", 20, () -> line.size(1));
            // saving is no change, and leaves all as it is
            Look.sameNow("saved", Answers::young, () -> changed(young(), x -> x.saveSnapshot(0)));
            due("the history", 3, () -> changed(young(), x -> x.saveSnapshot(1)).size(6));
            due("undo behind it", 2, () -> changed(young(), x -> x.saveSnapshot(1)).undo());
        });
        Check.holds(part, "`slot`: 0 or 1", () -> {
            for (int i = 0; i < 2; i++) {
                int slot = i;
                TurnLine line = new TurnLine();
                due("saved", true, () -> line.saveSnapshot(slot));
                due("not in the other slot", false, () -> line.restoreSnapshot(1 - slot));
                due("in this one", true, () -> line.restoreSnapshot(slot));
            }
        });
        Check.holds(part, "Returns true; false if there is no such slot.", () -> {
            due("slot 0", true, () -> new TurnLine().saveSnapshot(0));
            due("slot 1", true, () -> new TurnLine().saveSnapshot(1));
            due("slot 1 that is full", true, () -> busy().saveSnapshot(1));
            int[] slots = {MIN, -1, 2, MAX};
            for (int slot : slots) {
                refusedAlways("saveSnapshot(" + slot + ")", false, x -> x.saveSnapshot(slot));
            }
        });
    }

    private static void restoreSnapshot() {
        String part = "Promise 25";
        Check.holds(part, "Restores a snapshot and clears the undo history.", () -> {
            TurnLine line = busy();
            due("ten changes", 10, () -> line.size(6));
            due("restoreSnapshot(0)", true, () -> line.restoreSnapshot(0));
            due("none", 0, () -> line.size(6));
            due("nothing to undo", NONE, line::undo);
            dueSizes("as it began", line, 2, 7, 0, 0, 0, 5, 0);
            line.set(1, 1);
            due("a change", 0, line::undo);
            dueSizes("as it began", line, 2, 7, 0, 0, 0, 5, 0);
            due("restoreSnapshot(1)", true, () -> line.restoreSnapshot(1));
            dueSizes("in the middle", line, 2, 7, 55, 1, 2, 5, 0);
        });
        Check.holds(part, "The snapshot stays in its slot.", () -> {
            for (int i = 0; i < 2; i++) {
                int slot = i;
                Look.same("restored once more",
                    () -> changed(busy(), x -> x.restoreSnapshot(slot)), () -> {
                    TurnLine line = changed(busy(), x -> x.restoreSnapshot(slot));
                    line.run(9);
                    line.put(0, 1, 5L);
                    line.lose(300);
                    line.undo();
                    line.set(1, 1);
                    line.restoreSnapshot(slot);
                    return line;
                });
            }
        });
        Check.holds(part, "`slot`: 0 or 1", () -> {
            TurnLine line = new TurnLine();
            line.set(1, 11);
            line.saveSnapshot(1);
            line.set(2, 22);
            line.saveSnapshot(0);
            line.restoreSnapshot(1);
            dueSizes("slot 1", line, 1, 11);
            line.restoreSnapshot(0);
            dueSizes("slot 0", line, 2, 22);
        });
        Check.holds(part, "Returns true; false, with nothing changed, if there is no such slot or "
            + "it is empty.", () -> {
            int[] slots = {MIN, -1, 2, MAX};
            for (int slot : slots) {
                refusedAlways("restoreSnapshot(" + slot + ")", false, x -> x.restoreSnapshot(slot));
            }
            refused("slot 0 that is empty", false, Answers::young, x -> x.restoreSnapshot(0));
            due("slot 1 that is full", true, () -> young().restoreSnapshot(1));
            refused("slot 0 of a new line", false, TurnLine::new, x -> x.restoreSnapshot(0));
            refused("slot 1 of a new line", false, TurnLine::new, x -> x.restoreSnapshot(1));
            Supplier<TurnLine> anew = () -> {
                TurnLine line = busyWithoutText();
                Check.parse(line, "line 3 20;message 0 5;");
                line.run(1);
                return line;
            };
            refused("slot 0 behind parse", false, anew, x -> x.restoreSnapshot(0));
            refused("slot 1 behind parse", false, anew, x -> x.restoreSnapshot(1));
        });
    }
}
