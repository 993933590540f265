/** Each promise of the document in its order, with numbers that were worked out by hand. */
public final class PromisesTest extends Answers {
    private PromisesTest() {
    }

    public static void main(String[] args) {
        newObject();
        append();
        parseGood();
        parseSyntax();
        parseRepeatedAndRange();
        parseTooMany();
        parseLeavesAndEmpties();
        size();
        station();
        messageByte();
        isTold();
        next();
        nextByte();
        numbersModulo();
        until();
        delay();
        worstFrame();
        bestBurst();
        account();
        efficiency();
        put();
        read();
        askBack();
        returning();
        grow();
        lose();
        set();
        run();
        lostTurn();
        undo();
        snapshots();
        throwingChangesNothing();
        Check.end("PromisesTest");
    }

    private static void newObject() {
        TurnLine line = new TurnLine();
        due("NONE", -1, () -> TurnLine.NONE);
        dueSizes("new", line, 3, 20, 0, 0, 0, 0, 0);
        dueStation("new", line, 0, 0, 0, 0, 4, 0, 0, 0, 4, 0, 0);
        dueStation("new", line, 1, 0, 0, 0, 4, 0, 0, 0, 4, 0, 0);
        dueAccounts("new", line, 0, 0, 0, 0, 0, 0, 0, 0, 0, 0);
        due("new: undo", -1, line::undo);
        due("new: restoreSnapshot", false, () -> line.restoreSnapshot(0));
        due("new: parse(1) of an empty buffer", ARGUMENT, () -> line.parse(1));
        due("new: parse(0)", -3, () -> line.parse(0));
        dueSizes("after an empty text", line, 3, 20, 0, 0, 0, 0, 0);
    }

    private static void append() {
        TurnLine line = new TurnLine();
        for (int n = 1; n <= 35; n++) {
            int length = 20 * n;
            // spaces and line feeds, so that the text ends too early
            due("append " + n, length, () -> line.append(0x20202020, 0x0a0a0a0a, 0x200a200a,
                0x20202020, 0x0a0a0a0a));
        }
        due("append 36", -1, () -> line.append(0, 0, 0, 0, 0));
        due("parse(701)", ARGUMENT, () -> line.parse(701));
        due("parse(700)", -2 - (8 * 700 + 1), () -> line.parse(700));
        // "line" " 1 2" ";los" "e 3;" "    "
        due("append a line", 20, () -> line.append(0x6c696e65, 0x20312032, 0x3b6c6f73,
            0x6520333b, 0x20202020));
        due("parse the line", 0, () -> line.parse(20));
        dueSizes("appended", line, 1, 2, 0, 0, 0, 1, 0);
        due("isTold(3)", true, () -> line.isTold(3));
    }

    private static void dueParse(String text, Object want) {
        due("parse of <" + text + ">", want, () -> Check.parse(new TurnLine(), text));
    }

    private static void dueFault(String text, int offset, int kind) {
        dueParse(text, -2 - (8 * offset + kind));
    }

    private static void parseGood() {
        dueParse("line 1 1;", 0);
        dueParse("line 7 99;", 0);
        dueParse("line003 020;", 0);
        dueParse("\n line\n3 20\n;\n \n", 0);
        dueParse("line3 20;window0 1;message1 0 255;lose0;lose499;", 1);
        dueParse("line 3 20;message 0 1 2 3 4 5 6 7 8;message 1 9;message 0 0;", 3);
        dueParse("line 3 20;" + "message 0 1;".repeat(20) + "message 1 1;".repeat(20), 40);
        TurnLine line = Check.lineOf("line 2 5;window 1 9;message 1 7;window 0 1;lose 8;");
        dueSizes("parsed", line, 2, 5, 0, 0, 0, 1, 0);
        dueStation("parsed", line, 0, 0, 0, 0, 1, 0, 0, 0, 9, 0, 0);
        dueStation("parsed", line, 1, 1, 0, 0, 9, 0, 0, 0, 1, 0, 0);
        dueStation("one window", Check.lineOf("line 2 5;window 1 9;"), 1, 0, 0, 0, 9, 0, 0, 0, 4);
    }

    private static void parseSyntax() {
        dueFault("", 0, 1);
        dueFault(" \n", 2, 1);
        dueFault("line", 4, 1);
        dueFault("line 3 20", 9, 1);
        dueFault("line 3 20 \n", 11, 1);
        dueFault("lin 3 20;", 0, 1);
        dueFault("mine 3 20;", 0, 1);
        dueFault("lint 3 20;", 0, 1);
        dueFault("linee 3 20;", 0, 1);
        dueFault("Line 3 20;", 0, 1);
        dueFault(" linelines 3 20;", 1, 1);
        dueFault("line ; 20;", 5, 1);
        dueFault("line 1000 20;", 5, 1);
        dueFault("line 0003 20;", 5, 1);
        dueFault("line x 20;", 5, 1);
        dueFault("line 3 20 20;", 10, 1);
        dueFault("line 3 20;;", 10, 1);
        dueFault("line 3 20;line 3 20;", 10, 1);
        dueFault("line 3 20;losewindow 5;", 10, 1);
        dueFault("line 3 20;lose -5;", 15, 1);
        dueFault("line 3 20;lose;", 14, 1);
        dueFault("line 3 20;lose 5 6;", 17, 1);
        dueFault("line 3 20;window 1;", 18, 1);
        dueFault("line 3 20;window 1 2 3;", 21, 1);
        dueFault("line 3 20;message 0;", 19, 1);
        dueFault("line 3 20;message 0 1", 21, 1);
        dueFault("line 3 20;message 0 1 x;", 22, 1);
        dueFault("line 3 20;\t", 10, 1);
        dueFault("line 3 20;\u00e4", 10, 1);
        dueFault("line 3 20;\u00ff", 10, 1);
        dueFault("line 3 20;\0", 10, 1);
    }

    private static void parseRepeatedAndRange() {
        dueFault("line 3 20;window 1 4;window 1 4;", 28, 2);
        dueFault("line 3 20;window 0 4;window 1 3;window 0 99;", 39, 2);
        dueFault("line 3 20;lose 7;lose 8;lose 007;", 29, 2);
        dueFault("line 0 20;", 5, 3);
        dueFault("line 8 x", 5, 3);
        dueFault("line 3 0;", 7, 3);
        dueFault("line 3 100;", 7, 3);
        dueFault("line 3 20;window 2 4;", 17, 3);
        dueFault("line 3 20;window 0 0;", 19, 3);
        dueFault("line 3 20;window 0 10;", 19, 3);
        dueFault("line 3 20;message 2 1;", 18, 3);
        dueFault("line 3 20;message 0 256;", 20, 3);
        dueFault("line 3 20;message 0 1 256;", 22, 3);
        dueFault("line 3 20;message 0 1 999;", 22, 3);
        dueFault("line 3 20;lose 500;", 15, 3);
    }

    private static void parseTooMany() {
        String nine = "line 3 20;message 0 1 2 3 4 5 6 7 8 ";
        dueFault(nine + "9;", 36, 4);
        dueFault(nine + "0;", 36, 4);
        dueFault(nine + "9", 36, 4);
        dueFault(nine + "256;", 36, 3);
        dueFault(nine + "1000;", 36, 1);
        dueFault(nine + "message", 36, 1);
        String twenty = "line 3 20;" + "message 1 1;".repeat(20);
        dueFault(twenty + "message 1 1;", 258, 4);
        dueFault(twenty + "message 1", 258, 4);
        dueFault(twenty + "message 2 1;", 258, 3);
        dueParse(twenty + "message 0 1;", 21);
        StringBuilder told = new StringBuilder("line 3 20;");
        for (int f = 10; f < 30; f++) {
            told.append("lose ").append(f).append(';');
        }
        dueParse(told.toString(), 0);
        dueFault(told + "lose 40;", 170, 4);
        dueFault(told + "lose 10;", 170, 4);
        dueFault(told + "lose", 170, 4);
        dueFault(told + "loser", 170, 1);
    }

    private static void parseLeavesAndEmpties() {
        TurnLine line = Check.lineOf(ONE_MESSAGE);
        line.run(2);
        line.saveSnapshot(1);
        Check.feed(line, "line 7 99;message 2;;;;;;;;;");
        due("parse(-1)", ARGUMENT, () -> line.parse(-1));
        due("parse(41)", ARGUMENT, () -> line.parse(41));
        due("parse(MIN)", ARGUMENT, () -> line.parse(MIN));
        due("parse with a fault", -2 - (8 * 18 + 3), () -> line.parse(22));
        dueSizes("after a fault", line, 1, 10, 19, 1, 0, 0, 1);
        due("the buffer after a fault", 20, () -> line.append(0, 0, 0, 0, 0));
        line.parse(0);
        Check.feed(line, "line 7 99;and more text is behind it");
        due("parse of the first ten", 0, () -> line.parse(10));
        dueSizes("after a parse", line, 7, 99, 0, 0, 0, 0, 0);
        dueStation("after a parse", line, 0, 0, 0, 0, 4, 0, 0, 0, 4, 0, 0);
        dueStation("after a parse", line, 1, 0, 0, 0, 4, 0, 0, 0, 4, 0, 0);
        dueAccounts("after a parse", line, 0, 0, 0, 0, 0, 0, 0, 0, 0, 0);
        due("undo after a parse", -1, line::undo);
        due("the slot after a parse", false, () -> line.restoreSnapshot(1));
        due("the buffer after a parse", 20, () -> line.append(0, 0, 0, 0, 0));
        TurnLine kept = Check.lineOf(ONE_MESSAGE);
        kept.saveSnapshot(0);
        kept.run(1);
        Check.parse(kept, "lines");
        due("undo after a fault", 0, kept::undo);
        due("the slot after a fault", true, () -> kept.restoreSnapshot(0));
    }

    private static void size() {
        TurnLine line = Check.lineOf("line 2 5;message 0 1;message 0 2;message 0 3;lose 0;lose 9;");
        line.run(1);
        line.run(1);
        dueSizes("two of data", line, 2, 5, 20, 0, 2, 2, 2);
        line.run(1);
        dueSizes("a turn", line, 2, 5, 29, 1, 0, 2, 3);
        due("size(-1)", ARGUMENT, () -> line.size(-1));
        due("size(7)", ARGUMENT, () -> line.size(7));
        due("size(MIN)", ARGUMENT, () -> line.size(MIN));
        due("size(MAX)", ARGUMENT, () -> line.size(MAX));
    }

    private static void station() {
        TurnLine line = Check.lineOf("line 2 5;window 1 6;message 0 1;message 0 2;message 0 3;");
        line.run(3);
        line.read(1, 1);
        dueStation("before the answer", line, 0, 3, 0, 0, 4, 0, 0, 0, 6, 2, 1);
        dueStation("before the answer", line, 1, 0, 2, 1, 6, 0, 0, 0, 4, 0, 0);
        line.run(1);
        dueStation("after the answer", line, 0, 3, 0, 0, 4, 0, 0, 2, 7, 2, 1);
        dueStation("after the answer", line, 1, 0, 2, 1, 6, 0, 0, 0, 4, 0, 1);
        due("station(-1, 0)", INDEX, () -> line.station(-1, 0));
        due("station(2, 0)", INDEX, () -> line.station(2, 0));
        due("station(2, 99)", INDEX, () -> line.station(2, 99));
        due("station(0, -1)", ARGUMENT, () -> line.station(0, -1));
        due("station(1, 10)", ARGUMENT, () -> line.station(1, 10));
        due("station(1, MIN)", ARGUMENT, () -> line.station(1, MIN));
    }

    private static void messageByte() {
        TurnLine line = Check.lineOf("line 3 20;message 0 1 255;message 1 9 8 7 6 5 4 3 2;");
        due("first byte", 1, () -> line.messageByte(0, 0, 0));
        due("second byte", 255, () -> line.messageByte(0, 0, 1));
        due("third byte", -1, () -> line.messageByte(0, 0, 2));
        due("byte -1", -1, () -> line.messageByte(0, 0, -1));
        due("byte MIN", -1, () -> line.messageByte(1, 0, MIN));
        due("eighth byte", 2, () -> line.messageByte(1, 0, 7));
        due("ninth byte", -1, () -> line.messageByte(1, 0, 8));
        due("message 1", INDEX, () -> line.messageByte(1, 1, 0));
        due("message -1", INDEX, () -> line.messageByte(1, -1, -1));
        due("message MAX", INDEX, () -> line.messageByte(0, MAX, 0));
        due("station 2", INDEX, () -> line.messageByte(2, 0, 0));
        due("station -1", INDEX, () -> line.messageByte(-1, 0, 0));
    }

    private static void isTold() {
        TurnLine line = Check.lineOf("line 3 20;lose 0;lose 64;lose 499;");
        line.lose(1999);
        line.run(2);
        int[] told = {0, 64, 499, 1999};
        for (int frame : told) {
            due("isTold(" + frame + ")", true, () -> line.isTold(frame));
        }
        int[] others = {MIN, -1, 1, 63, 65, 128, 498, 500, 1998, 2000, 2063, MAX};
        for (int frame : others) {
            due("isTold(" + frame + ")", false, () -> line.isTold(frame));
        }
    }

    private static void next() {
        TurnLine line = Check.lineOf("line 1 10;message 0 1;message 0 2;message 1 5 6;lose 2;");
        dueNext("data", line, 0, 0, 0, 10, 0, 0);
        line.run(1);
        dueNext("the burst is used up", line, 1, 0, 0, 9, 1, 0);
        line.run(1);
        dueNext("data that will be lost", line, 0, 1, 0, 11, 2, 1);
        line.run(2);
        dueNext("the second message", line, 0, 0, 1, 10, 4, 0);
        line.run(1);
        dueNext("a second turn", line, 1, 0, 1, 9, 5, 0);
        line.run(1);
        dueNext("once more", line, 0, 1, 0, 11, 6, 0);
        due("next(-1)", ARGUMENT, () -> line.next(-1));
        due("next(6)", ARGUMENT, () -> line.next(6));
        due("next(MAX)", ARGUMENT, () -> line.next(MAX));
    }

    private static void nextByte() {
        TurnLine line = Check.lineOf("line 3 20;window 0 7;message 0 125 126 3;message 1 105;");
        line.askBack(0, 2);
        dueWire("data", line, 126, 0, 0, 0, 7, 2, 0, 125, 93, 125, 94, 3, 7, 126);
        line.run(1);
        dueWire("a turn", line, 126, 1, 0, 0, 7, 2, 0, 10, 126);
        line.run(1);
        // 2 + 0 + 1 + 4 + 0 + 2 + 105 = 114
        dueWire("an answer", line, 126, 2, 0, 1, 4, 0, 2, 105, 114, 126);
        due("nextByte(-1)", -1, () -> line.nextByte(-1));
        due("nextByte(MIN)", -1, () -> line.nextByte(MIN));
        due("nextByte(MAX)", -1, () -> line.nextByte(MAX));
        dueWire("a sum of 126", Check.lineOf("line 3 20;message 0 122;"),
            126, 0, 0, 0, 4, 0, 0, 122, 125, 94, 126);
        dueWire("a sum of 256 + 125", Check.lineOf("line 3 20;message 0 255 122;"),
            126, 0, 0, 0, 4, 0, 0, 255, 122, 125, 93, 126);
        StringBuilder eight = new StringBuilder("line 3 20;message 0");
        int[] wire = new int[25];
        System.arraycopy(new int[] {126, 0, 0, 0, 4, 0, 0}, 0, wire, 0, 7);
        for (int k = 0; k < 8; k++) {
            eight.append(" 126");
            wire[7 + 2 * k] = 125;
            wire[8 + 2 * k] = 94;
        }
        // 4 + 8 * 126 = 1012 = 3 * 256 + 244
        wire[23] = 244;
        wire[24] = 126;
        dueWire("eight escaped", Check.lineOf(eight + ";"), wire);
    }

    /** More than 255 turns and more than 255 returned. */
    private static void numbersModulo() {
        TurnLine line = new TurnLine();
        for (int n = 0; n < 5; n++) {
            line.run(100);
        }
        line.run(12);
        // station 0 has passed 256 turns
        dueNext("turn 256", line, 1, 0, 256, 9, 512, 0);
        dueWire("turn 256", line, 126, 1, 0, 0, 4, 0, 0, 5, 126);
        TurnLine back = Check.lineOf("line 1 1;window 0 9;window 1 9;");
        for (int n = 0; n < 32; n++) {
            back.askBack(0, 8);
            back.run(2);
            back.grow(0, 8);
        }
        dueStation("256 returned", back, 1, 0, 0, 0, 9, 0, 256, 0, 1, 0, 32);
        back.run(1);
        dueWire("256 returned", back, 126, 3, 32, 0, 9, 0, 0, 44, 126);
        dueStation("256 noted", back, 0, 0, 0, 0, 9, 0, 0, 0, 9, 0, 33);
    }

    private static void until() {
        TurnLine line = Check.lineOf(ONE_MESSAGE);
        dueUntil("one message", line, 10, 1);
        due("not reading: ticks", 10, () -> line.until(false, 0));
        line.run(1);
        dueUntil("all accepted", line, 0, 0);
        due("all accepted, not reading", 0, () -> line.until(false, 1));
        due("until(true, -1)", ARGUMENT, () -> line.until(true, -1));
        due("until(false, 2)", ARGUMENT, () -> line.until(false, 2));
        due("until(true, MAX)", ARGUMENT, () -> line.until(true, MAX));
        TurnLine narrow = Check.lineOf("line 7 99;window 1 1;message 0 1;message 0 2;");
        dueUntil("a window of one", narrow, 10 + 9 + 9 + 10, 4);
        due("nobody reads: ticks", -1, () -> narrow.until(false, 0));
        due("nobody reads: frames", -1, () -> narrow.until(false, 1));
        narrow.run(3);
        due("the buffer is full and known so", 1, () -> narrow.station(0, 7));
        // the turns of both stations, the reading told by the second, then data
        dueUntil("those in the buffer are read at once", narrow, 9 + 9 + 10, 3);
        dueUntil("with a silence", Check.lineOf("line 1 50;message 1 1;lose 0;"), 9 + 50 + 9 + 10, 3);
        dueUntil("shifted", Check.lineOf(SHIFTED), 165, 7);
        due("nothing was changed", 3, () -> narrow.account(0));
    }

    private static void delay() {
        TurnLine line = Check.lineOf(ONE_MESSAGE);
        due("the only one of data", 28, () -> line.delay(0));
        due("one past the end", 0, () -> line.delay(1));
        due("the last one of all", 0, () -> line.delay(1999));
        due("delay(-1)", ARGUMENT, () -> line.delay(-1));
        due("delay(2000)", ARGUMENT, () -> line.delay(2000));
        due("delay(MIN)", ARGUMENT, () -> line.delay(MIN));
        TurnLine shifted = Check.lineOf(SHIFTED);
        int[] due = {-79, 108, 28, 108, 0, 108, 28, 0};
        for (int f = 0; f < due.length; f++) {
            int frame = f;
            due("shifted: delay(" + f + ")", due[f], () -> shifted.delay(frame));
        }
        shifted.run(1);
        due("one that was sent", 0, () -> shifted.delay(0));
        due("nothing was told", 1, () -> shifted.size(5));
        due("one told already", 0, () -> Check.lineOf("line 1 9;message 0 1;lose 0;").delay(0));
    }

    private static void worstFrame() {
        due("nothing to send", -1, () -> new TurnLine().worstFrame());
        due("one of data", 0, () -> Check.lineOf(ONE_MESSAGE).worstFrame());
        due("several", 1, () -> Check.lineOf(SHIFTED).worstFrame());
        due("only a told one delays nothing more", 2, () ->
            Check.lineOf("line 1 99;message 0 1;lose 0;lose 1;").worstFrame());
        TurnLine late = Check.lineOf(ONE_MESSAGE);
        late.run(1);
        due("all accepted", -1, late::worstFrame);
        for (int n = 0; n < 19; n++) {
            late.run(100);
        }
        late.run(99);
        late.put(0, 1, 5L);
        late.put(1, 1, 5L);
        due("frames past 2000: talker", 1, () -> late.size(3));
        dueUntil("frames past 2000", late, 10 + 9 + 10, 3);
        // 19 for data that the other's answer has to wait for, 9 + 10 for the turn, 28 at the end
        due("a worst frame past 1999", 2002, late::worstFrame);
        due("delay of 1999", 0, () -> late.delay(1999));
        due("no step left", STATE, () -> late.run(1));
    }

    private static void bestBurst() {
        due("nothing to send", 1, () -> new TurnLine().bestBurst());
        due("one message", 1, () -> Check.lineOf(ONE_MESSAGE).bestBurst());
        due("shifted", 2, () -> Check.lineOf(SHIFTED).bestBurst());
        due("three messages", 3, () -> Check.lineOf(
            "line 1 9;message 0 1;message 0 2;message 0 3;").bestBurst());
        TurnLine line = Check.lineOf("line 7 9;message 0 1;message 0 2;message 0 3;lose 1;");
        // with 1: 10 + 9 lost + 9 + 9 + 9 + 10 + 9 + 9 + 10; with 2 and more the message is lost
        due("lost data", 2, line::bestBurst);
        due("nothing was set", 7, () -> line.size(0));
        line.run(1);
        due("in the present turn", 2, line::bestBurst);
    }

    private static void account() {
        TurnLine line = Check.lineOf(
            "line 2 10;message 0 1 2 3;message 0 4;message 1 126 125;lose 0;lose 2;");
        line.run(2);
        dueAccounts("data", line, 2, 1, 2, 0, 0, 0, 22, 0, 0, 1);
        line.run(2);
        dueAccounts("turns", line, 4, 2, 2, 0, 2, 1, 40, 0, 10, 1);
        line.run(4);
        // an answer of 11 bytes with two escapes, a turn, both messages once more
        dueAccounts("once more", line, 8, 2, 5, 2, 3, 1, 84, 2, 10, 1);
        due("the time", 94, () -> line.size(2));
        due("account(-1)", ARGUMENT, () -> line.account(-1));
        due("account(10)", ARGUMENT, () -> line.account(10));
        due("account(MIN)", ARGUMENT, () -> line.account(MIN));
    }

    private static void efficiency() {
        TurnLine line = Check.lineOf("line 1 10;message 0 1 2 3;message 1 4;lose 0;");
        due("nothing was sent", 0.0, line::efficiency);
        line.run(1);
        due("nothing was accepted", 0.0, line::efficiency);
        line.run(2);
        due("one byte", 1.0 / 31, line::efficiency);
        line.run(2);
        due("four bytes", 4.0 / 52, line::efficiency);
        line.put(0, 8, 0L);
        due("a message that waits", 4.0 / 52, line::efficiency);
    }

    private static void put() {
        TurnLine line = Check.lineOf(ONE_MESSAGE);
        due("put(0, 1, ..)", 1, () -> line.put(0, 1, 0x1234567890abcdefL));
        due("its byte", 0xef, () -> line.messageByte(0, 1, 0));
        due("what is above", -1, () -> line.messageByte(0, 1, 1));
        due("put(1, 8, ..)", 0, () -> line.put(1, 8, 0xfe34567890abcdefL));
        int[] bytes = {0xef, 0xcd, 0xab, 0x90, 0x78, 0x56, 0x34, 0xfe, -1};
        for (int i = 0; i < bytes.length; i++) {
            int k = i;
            due("byte " + i, bytes[i], () -> line.messageByte(1, 0, k));
        }
        line.run(1);
        due("a message for the present turn", 0, () -> line.size(3));
        due("put(2, 0, 0)", INDEX, () -> line.put(2, 0, 0L));
        due("put(-1, 1, 0)", INDEX, () -> line.put(-1, 1, 0L));
        due("put(0, 0, 0)", ARGUMENT, () -> line.put(0, 0, 0L));
        due("put(0, 9, 0)", ARGUMENT, () -> line.put(0, 9, 0L));
        for (int n = 2; n < 20; n++) {
            line.put(0, 1, n);
        }
        due("put the 21st", STATE, () -> line.put(0, 1, 0L));
        due("put the 21st, too long", ARGUMENT, () -> line.put(0, 9, 0L));
        due("put for the other", 1, () -> line.put(1, 1, 0L));
        due("messages", 20, () -> line.station(0, 0));
        TurnLine idle = new TurnLine();
        idle.put(0, 1, 7L);
        due("data instead of the turn", 0, () -> idle.next(0));
    }

    private static void read() {
        TurnLine line = Check.lineOf("line 3 20;message 0 1;message 0 2;message 0 3;");
        line.run(3);
        due("read(1, 4)", STATE, () -> line.read(1, 4));
        due("read(1, 2)", 1, () -> line.read(1, 2));
        due("read(1, 2) again", STATE, () -> line.read(1, 2));
        due("read(1, 1)", 0, () -> line.read(1, 1));
        due("read(0, 1)", STATE, () -> line.read(0, 1));
        due("read(1, 20)", STATE, () -> line.read(1, 20));
        due("read(1, 21)", ARGUMENT, () -> line.read(1, 21));
        due("read(1, 0)", ARGUMENT, () -> line.read(1, 0));
        due("read(1, MIN)", ARGUMENT, () -> line.read(1, MIN));
        due("read(2, 0)", INDEX, () -> line.read(2, 0));
        due("read(-1, 1)", INDEX, () -> line.read(-1, 1));
        dueStation("read", line, 1, 0, 3, 3, 4, 0, 0, 0, 4, 0, 0);
        line.run(2);
        due("the limit that is known", 7, () -> line.station(0, 7));
    }

    private static void askBack() {
        TurnLine line = Check.lineOf("line 3 20;window 0 9;");
        due("askBack(1, 4)", STATE, () -> line.askBack(1, 4));
        due("askBack(1, 3)", 3, () -> line.askBack(1, 3));
        due("askBack(1, 1)", STATE, () -> line.askBack(1, 1));
        due("askBack(0, 9)", STATE, () -> line.askBack(0, 9));
        due("askBack(0, 5)", 5, () -> line.askBack(0, 5));
        due("askBack(0, 3)", 8, () -> line.askBack(0, 3));
        due("askBack(0, 0)", ARGUMENT, () -> line.askBack(0, 0));
        due("askBack(0, 10)", ARGUMENT, () -> line.askBack(0, 10));
        due("askBack(0, MAX)", ARGUMENT, () -> line.askBack(0, MAX));
        due("askBack(2, 0)", INDEX, () -> line.askBack(2, 0));
        due("askBack(-1, 1)", INDEX, () -> line.askBack(-1, 1));
        dueStation("asked", line, 0, 0, 0, 0, 9, 8, 0, 0, 4, 0, 0);
    }

    private static void returning() {
        TurnLine line = Check.lineOf("line 7 20;window 1 6;message 0 1;message 0 2;message 0 3;");
        line.askBack(1, 5);
        line.run(4);
        dueStation("asked while nothing was known", line, 0, 3, 0, 0, 4, 0, 0, 0, 6, 3, 1);
        line.run(1);
        // 0 has sent three of the six that it may, so it can return three of the five
        dueStation("returned", line, 0, 3, 0, 0, 4, 0, 3, 3, 3, 3, 1);
        dueStation("not noted yet", line, 1, 0, 3, 0, 6, 5, 0, 0, 4, 0, 1);
        due("more than is left", STATE, () -> line.askBack(1, 1));
        due("it wants capacity back", STATE, () -> line.grow(1, 1));
        line.run(1);
        dueStation("noted", line, 1, 0, 3, 0, 3, 2, 0, 0, 4, 0, 1);
        line.read(1, 3);
        line.run(2);
        // the limit is 3 + 3 now, so the two that are still wanted can be returned
        dueStation("returned the rest", line, 1, 0, 3, 3, 1, 0, 0, 0, 4, 0, 2);
        dueStation("returned the rest", line, 0, 3, 0, 0, 4, 0, 5, 3, 4, 3, 3);
    }

    private static void grow() {
        TurnLine line = Check.lineOf("line 3 20;");
        due("grow(1, 6)", STATE, () -> line.grow(1, 6));
        due("grow(1, 4)", 8, () -> line.grow(1, 4));
        due("grow(1, 1)", 9, () -> line.grow(1, 1));
        due("grow(1, 1) again", STATE, () -> line.grow(1, 1));
        due("grow(0, 0)", ARGUMENT, () -> line.grow(0, 0));
        due("grow(0, 10)", ARGUMENT, () -> line.grow(0, 10));
        due("grow(0, MAX)", ARGUMENT, () -> line.grow(0, MAX));
        due("grow(2, 0)", INDEX, () -> line.grow(2, 0));
        due("grow(-1, 1)", INDEX, () -> line.grow(-1, 1));
        line.askBack(0, 1);
        due("it wants capacity back", STATE, () -> line.grow(0, 1));
        due("the other one does not know", 4, () -> line.station(0, 7));
        line.run(2);
        due("then it knows", 9, () -> line.station(0, 7));
        due("returned one", 3, () -> line.station(1, 7));
        line.run(1);
        line.run(1);
        due("it grows again", 4, () -> line.grow(0, 1));
    }

    private static void lose() {
        TurnLine line = Check.lineOf("line 3 20;lose 3;");
        line.run(2);
        due("one that was sent", STATE, () -> line.lose(1));
        due("the next one", 2, () -> line.lose(2));
        due("one told already", STATE, () -> line.lose(3));
        due("the last one", 3, () -> line.lose(1999));
        due("lose(2000)", ARGUMENT, () -> line.lose(2000));
        due("lose(-1)", ARGUMENT, () -> line.lose(-1));
        due("lose(MIN)", ARGUMENT, () -> line.lose(MIN));
        for (int n = 4; n <= 40; n++) {
            int told = n;
            due("lose " + n, n, () -> line.lose(1000 + told));
        }
        due("the 41st", STATE, () -> line.lose(500));
        due("the 41st, out of range", ARGUMENT, () -> line.lose(2000));
        due("told", 40, () -> line.size(5));
        due("the next frame", 1, () -> line.next(5));
    }

    private static void set() {
        TurnLine line = Check.lineOf("line 3 20;message 0 1;message 0 2;message 0 3;");
        due("set(7, 99)", 3, () -> line.set(7, 99));
        due("set(1, 1)", 7, () -> line.set(1, 1));
        due("set(0, 1)", ARGUMENT, () -> line.set(0, 1));
        due("set(8, 1)", ARGUMENT, () -> line.set(8, 1));
        due("set(1, 0)", ARGUMENT, () -> line.set(1, 0));
        due("set(1, 100)", ARGUMENT, () -> line.set(1, 100));
        due("set(MIN, MAX)", ARGUMENT, () -> line.set(MIN, MAX));
        dueSizes("set", line, 1, 1, 0, 0, 0, 0, 2);
        line.run(1);
        due("the burst is used up", 1, () -> line.next(0));
        line.set(2, 5);
        due("the turn goes on", 0, () -> line.next(0));
        line.run(1);
        line.set(1, 5);
        due("the turn ends", 1, () -> line.next(0));
        due("with two of data", 2, () -> line.size(4));
    }

    private static void run() {
        TurnLine line = Check.lineOf(ONE_MESSAGE);
        due("run(0)", ARGUMENT, () -> line.run(0));
        due("run(101)", ARGUMENT, () -> line.run(101));
        due("run(MIN)", ARGUMENT, () -> line.run(MIN));
        due("run(1)", 10, () -> line.run(1));
        due("run(2)", 28, () -> line.run(2));
        TurnLine most = new TurnLine();
        int time = 0;
        for (int n = 0; n < 19; n++) {
            time = most.run(100);
        }
        // nothing but turns, some bytes of which are escaped
        due("time and bytes", time, () -> most.account(6));
        due("1900 frames", 1900, () -> most.account(0));
        most.run(99);
        due("run(2) at 1999", STATE, () -> most.run(2));
        due("run(101) at 1999", ARGUMENT, () -> most.run(101));
        due("frame 1999 can be told", 1, () -> most.lose(1999));
        most.run(1);
        due("run(1) at 2000", STATE, () -> most.run(1));
        due("nothing is told behind", 0, () -> most.next(5));
        due("2000 frames", 2000, () -> most.next(4));
        due("one lost", 1, () -> most.account(1));
        due("nothing to undo was added", 4, () -> {
            for (int n = 0; n < 6; n++) {
                most.undo();
            }
            return most.size(6);
        });
        due("back at 1600 frames", 1600, () -> most.account(0));
    }

    private static void lostTurn() {
        TurnLine line = Check.lineOf("line 1 30;message 1 1;lose 0;lose 1;");
        due("the turn is lost", 39, () -> line.run(1));
        due("the talker stays", 0, () -> line.size(3));
        line.put(0, 1, 7L);
        due("no data before the turn arrives", 1, () -> line.next(0));
        line.set(5, 40);
        due("with the new silence", 39 + 9 + 40, () -> line.run(1));
        due("no turn was passed", 0, () -> line.station(0, 9));
        line.askBack(0, 2);
        dueWire("what is so then", line, 126, 1, 0, 0, 4, 2, 0, 7, 126);
        due("it arrives", 97, () -> line.run(1));
        dueAccounts("at last", line, 3, 2, 0, 0, 3, 2, 27, 0, 70, 0);
        dueStation("at last", line, 1, 1, 0, 0, 4, 0, 2, 0, 2, 0, 0);
        TurnLine data = Check.lineOf("line 1 30;message 0 1;lose 0;lose 1;");
        data.run(2);
        due("frames of data of the turn that is not passed", 1, () -> data.size(4));
        data.run(1);
        due("frames of data of the next turn", 0, () -> data.size(4));
    }

    private static void undo() {
        TurnLine line = Check.lineOf(SHIFTED);
        due("nothing to undo", -1, line::undo);
        line.set(1, 99);
        line.run(3);
        line.read(1, 1);
        line.askBack(0, 2);
        line.grow(1, 3);
        line.lose(9);
        line.put(0, 2, 5L);
        due("undo put", 6, line::undo);
        due("the put message", INDEX, () -> line.messageByte(0, 1, 0));
        due("undo lose", 5, line::undo);
        due("the told frame", false, () -> line.isTold(9));
        due("undo grow", 4, line::undo);
        due("the capacity", 4, () -> line.station(1, 3));
        due("undo askBack", 3, line::undo);
        due("the wanted", 0, () -> line.station(0, 4));
        due("undo read", 2, line::undo);
        due("the buffer", 0, () -> line.station(1, 2));
        due("undo run", 1, line::undo);
        dueSizes("before the run", line, 1, 99, 0, 0, 0, 1, 1);
        dueAccounts("before the run", line, 0, 0, 0, 0, 0, 0, 0, 0, 0, 0);
        dueStation("before the run", line, 0, 1, 0, 0, 4, 0, 0, 0, 4, 0, 0);
        due("undo set", 0, line::undo);
        due("nothing left", -1, line::undo);
        for (int n = 0; n < 13; n++) {
            line.set(1 + n % 7, 1 + n);
        }
        due("at most ten", 10, () -> line.size(6));
        for (int n = 9; n >= 0; n--) {
            int left = n;
            due("undo of ten", left, line::undo);
            due("the silence", 3 + left, () -> line.size(1));
        }
        due("the eleventh", -1, line::undo);
        line.run(1);
        due("a change after undo", 1, () -> line.size(6));
        due("undo of it", 0, line::undo);
    }

    private static void snapshots() {
        TurnLine line = Check.lineOf("line 2 10;message 0 1 2;lose 1;");
        due("empty slot", false, () -> line.restoreSnapshot(1));
        due("save(0)", true, () -> line.saveSnapshot(0));
        due("save(-1)", false, () -> line.saveSnapshot(-1));
        due("save(2)", false, () -> line.saveSnapshot(2));
        due("restore(2)", false, () -> line.restoreSnapshot(2));
        due("restore(MIN)", false, () -> line.restoreSnapshot(MIN));
        line.run(2);
        due("save(1)", true, () -> line.saveSnapshot(1));
        line.put(0, 1, 9L);
        line.run(5);
        line.lose(50);
        line.set(5, 5);
        due("restore(0)", true, () -> line.restoreSnapshot(0));
        dueSizes("at the beginning", line, 2, 10, 0, 0, 0, 1, 0);
        dueStation("at the beginning", line, 0, 1, 0, 0, 4, 0, 0, 0, 4, 0, 0);
        due("the history", -1, line::undo);
        due("restore(1)", true, () -> line.restoreSnapshot(1));
        dueSizes("in the lost turn", line, 2, 10, 30, 0, 1, 1, 0);
        dueAccounts("in the lost turn", line, 2, 1, 1, 0, 1, 0, 20, 0, 10, 0);
        due("the turn once more", 1, () -> line.next(0));
        line.run(2);
        due("save(1) again", true, () -> line.saveSnapshot(1));
        due("saving is no change", 1, () -> line.size(6));
        due("undo", 0, line::undo);
        due("restore(1) again", true, () -> line.restoreSnapshot(1));
        due("in place of the first", 4, () -> line.account(0));
        due("the other slot stays", true, () -> line.restoreSnapshot(0));
        due("and holds the same", 0, () -> line.account(0));
        line.run(1);
        due("restore of no slot", false, () -> line.restoreSnapshot(3));
        due("leaves the history", 1, () -> line.size(6));
    }

    private static void throwingChangesNothing() {
        TurnLine line = Check.lineOf(SHIFTED);
        line.run(1);
        Check.Call[] calls = {() -> line.put(0, 0, 1L), () -> line.read(1, 2),
            () -> line.askBack(1, 4), () -> line.grow(1, 6), () -> line.lose(0),
            () -> line.set(2, 0), () -> line.run(0), () -> line.put(5, 1, 1L)};
        for (Check.Call call : calls) {
            Check.answer(call);
            dueSizes("after a throw", line, 1, 99, 10, 0, 1, 1, 1);
            dueStation("after a throw", line, 0, 1, 0, 0, 4, 0, 0, 0, 4, 1, 0);
            dueStation("after a throw", line, 1, 2, 1, 0, 4, 0, 0, 0, 4, 0, 0);
        }
    }
}
