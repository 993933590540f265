/** The boundary cases of the terms: its first words, and the parts STATIONS, FRAMES and TURNS. */
public final class LineBoundariesTest extends Answers {
    private static final String TERMS = "Terms";

    private LineBoundariesTest() {
    }

    public static void main(String[] args) {
        calls();
        firstWords();
        stations();
        packing();
        wrapping();
        escapes();
        numbering();
        arriving();
        sending();
        passing();
        returning();
        losingTurns();
        Check.end("LineBoundariesTest");
    }

    private static void holds(String sentence, Runnable test) {
        Check.holds(TERMS, sentence, test);
    }

    private static String messages(int station, int many) {
        return ("message " + station + " 1;").repeat(many);
    }

    private static void calls() {
        Check.holds("What it is", "An object is used for at most 512 calls after it has been made",
            () -> {
            TurnLine line = new TurnLine();
            for (int call = 1; call <= 511; call++) {
                int burst = call % 7 + 1;
                int previous = call == 1 ? 3 : (call - 1) % 7 + 1;
                due("call " + call, previous, () -> line.set(burst, 5));
            }
            due("call 512", 9, line::undo);
        });
        Check.holds("The public face", "public static final int NONE = -1;",
            () -> due("NONE", -1, () -> TurnLine.NONE));
        holds("The constants: `NONE = -1`: What was asked for does not exist.", () -> {
            due("NONE", -1, () -> TurnLine.NONE);
            due("undo()", TurnLine.NONE, () -> new TurnLine().undo());
        });
    }

    private static void firstWords() {
        holds("There are never two talkers, and no deadlock, whichever frames are lost.", () -> {
            for (int mask = 0; mask < 256; mask++) {
                endsWithout(mask);
            }
            TurnLine line = Check.lineOf(ONE_MESSAGE);
            for (int frame = 0; frame < 40; frame++) {
                line.lose(frame);
            }
            // data, 39 turns that are lost, the turn, the answer, the data again
            dueUntil("forty lost", line, 10 + 39 * (9 + 10) + 9 + 9 + 10, 43);
            line.run(42);
            due("not yet", 0, () -> line.station(1, 1));
            line.run(1);
            due("at last", 1, () -> line.station(1, 1));
        });
        holds("Messages of a station and frames are numbered from 0.", () -> {
            TurnLine line = Check.lineOf("line 3 20;message 1 7;lose 0;");
            due("its first message", 7, () -> line.messageByte(1, 0, 0));
            due("before it", INDEX, () -> line.messageByte(1, -1, 0));
            due("the first message of a station", 0, () -> line.put(0, 1, 5L));
            dueNext("the first frame", line, 0, 0, 0, 10, 0, 1);
            line.run(1);
            due("it was lost", 1, () -> line.account(1));
        });
    }

    /** With the frames of the mask lost, all messages are accepted when it was told. */
    private static void endsWithout(int mask) {
        StringBuilder text = new StringBuilder("line 2 5;" + messages(0, 3) + messages(1, 2));
        for (int frame = 0; frame < 8; frame++) {
            text.append((mask >> frame & 1) != 0 ? "lose " + frame + ";" : "");
        }
        TurnLine line = Check.lineOf(text.toString());
        int frames = line.until(false, 1);
        due("it ends: " + text, true, () -> frames >= 5 && frames <= 40);
        for (int n = 0; n < Math.min(frames, 40); n++) {
            due("not all at frame " + n, false,
                () -> line.station(0, 1) == 2 && line.station(1, 1) == 3);
            due("the talker sends", line.size(3), () -> line.next(1));
            line.run(1);
        }
        due("the messages of 1: " + text, 2, () -> line.station(0, 1));
        due("the messages of 0: " + text, 3, () -> line.station(1, 1));
    }

    private static void stations() {
        holds("Each station has a list of messages for the other one, and a buffer with a capacity "
            + "for messages of the other one.", () -> {
            for (int capacity = 1; capacity <= 9; capacity++) {
                int full = capacity;
                TurnLine line = Check.lineOf("line 7 9;window 0 " + full + ";window 1 " + full + ";"
                    + messages(0, 12) + messages(1, 12));
                line.run(50);
                due("the buffer of 0 is full", full, () -> line.station(0, 1));
                due("the buffer of 1 is full", full, () -> line.station(1, 1));
                due("no message 12 in the list", INDEX, () -> line.messageByte(0, 12, 0));
            }
            TurnLine empty = new TurnLine();
            due("an empty list", 0, () -> empty.station(1, 0));
            due("an empty buffer", STATE, () -> empty.read(1, 1));
        });
        holds("It has accepted some messages of the other one, and its host has read some of "
            + "these, always the earliest ones; those that are accepted and not read are in the "
            + "buffer.", () -> {
            TurnLine line = Check.lineOf("line 3 20;" + messages(0, 3));
            due("an empty buffer", STATE, () -> line.read(1, 1));
            line.run(3);
            dueStation("three in the buffer", line, 1, 0, 3, 0);
            due("one was read", 2, () -> line.read(1, 1));
            dueStation("two in the buffer", line, 1, 0, 3, 1);
            due("all were read", 0, () -> line.read(1, 2));
            dueStation("none in the buffer", line, 1, 0, 3, 3);
            due("an empty buffer again", STATE, () -> line.read(1, 1));
        });
        holds("Its own limit is read + capacity: so many messages of the other one it can take "
            + "altogether.", LineBoundariesTest::ownLimit);
        holds("Of the other station it knows how many messages that has accepted, and its limit, "
            + "as the latest frame that arrived from it told them (0 and the capacity at first).",
            LineBoundariesTest::known);
        holds("A station can want capacity back: wanted is how much it wants that has not been "
            + "returned yet. It has returned some altogether to the other one, too (0 at first).",
            () -> {
            TurnLine line = new TurnLine();
            dueStation("at first", line, 0, 0, 0, 0, 4, 0, 0);
            dueStation("at first", line, 1, 0, 0, 0, 4, 0, 0);
            line.askBack(0, 3);
            dueStation("wanted", line, 0, 0, 0, 0, 4, 3, 0);
            line.run(1);
            dueStation("returned", line, 1, 0, 0, 0, 4, 0, 3);
            dueStation("it does not know yet", line, 0, 0, 0, 0, 4, 3, 0);
            line.run(1);
            dueStation("now it knows", line, 0, 0, 0, 0, 1, 0, 0);
            line.grow(0, 3);
            line.askBack(0, 2);
            line.run(2);
            dueStation("altogether", line, 1, 0, 0, 0, 4, 0, 5);
        });
    }

    private static void ownLimit() {
        TurnLine one = Check.lineOf("line 7 20;window 1 1;" + messages(0, 2));
        due("room for one", 0, () -> one.next(0));
        one.run(1);
        due("room for none", 1, () -> one.next(0));
        one.run(2);
        due("nothing was read", 1, () -> one.next(0));
        due("the limit", 1, () -> one.station(0, 7));
        one.read(1, 1);
        one.run(2);
        dueNext("room for one more", one, 0, 0, 1);
        due("the new limit", 2, () -> one.station(0, 7));
        TurnLine nine = Check.lineOf("line 7 20;window 1 9;" + messages(0, 10));
        nine.run(9);
        dueNext("room for two", nine, 0, 0, 7);
        nine.run(2);
        dueNext("room for none", nine, 1, 0, 1);
        due("nine in the buffer", 9, () -> nine.station(1, 1));
        due("never the tenth", NONE, () -> nine.until(false, 1));
    }

    private static void known() {
        TurnLine line = Check.lineOf("line 1 9;window 0 9;window 1 1;message 1 5;lose 1;");
        dueStation("at first", line, 0, 0, 0, 0, 9, 0, 0, 0, 1);
        dueStation("at first", line, 1, 1, 0, 0, 1, 0, 0, 0, 9);
        line.grow(1, 2);
        due("no frame has told it", 1, () -> line.station(0, 7));
        line.run(2);
        due("a lost frame has not told it", 1, () -> line.station(0, 7));
        line.run(1);
        due("the turn has told it", 3, () -> line.station(0, 7));
        // the turn of 0, data and the turn of 1
        line.run(3);
        due("accepted", 1, () -> line.station(0, 1));
        due("the accepted that no frame has told", 0, () -> line.station(1, 6));
        line.read(0, 1);
        due("the limit that no frame has told", 9, () -> line.station(1, 7));
        line.run(1);
        due("the accepted that the turn told", 1, () -> line.station(1, 6));
        due("the limit that the turn told", 10, () -> line.station(1, 7));
    }

    private static void packing() {
        holds("0 for data or 1 for a turn, plus 2 * the station that sends it;", () -> {
            TurnLine line = Check.lineOf("line 3 20;message 0 1;message 1 1;");
            for (int first = 0; first < 4; first++) {
                due("the first byte", first, () -> line.nextByte(1));
                line.run(1);
            }
            due("the first byte again", 1, () -> line.nextByte(1));
        });
        holds("for data the bytes of the message;", () -> {
            dueWire("one byte", Check.lineOf("line 3 20;message 0 0;"),
                126, 0, 0, 0, 4, 0, 0, 0, 4, 126);
            dueWire("eight bytes", Check.lineOf("line 3 20;message 0 1 2 3 4 5 6 7 255;"),
                126, 0, 0, 0, 4, 0, 0, 1, 2, 3, 4, 5, 6, 7, 255, 31, 126);
            dueWire("none", new TurnLine(), 126, 1, 0, 0, 4, 0, 0, 5, 126);
        });
        holds("at the end the sum of all these bytes modulo 256.", () -> {
            dueWire("255", Check.lineOf("line 3 20;message 0 251;"),
                126, 0, 0, 0, 4, 0, 0, 251, 255, 126);
            dueWire("256", Check.lineOf("line 3 20;message 0 252;"),
                126, 0, 0, 0, 4, 0, 0, 252, 0, 126);
            dueWire("257", Check.lineOf("line 3 20;message 0 253;"),
                126, 0, 0, 0, 4, 0, 0, 253, 1, 126);
            dueWire("4 + 8 * 255", Check.lineOf("line 3 20;message 0" + " 255".repeat(8) + ";"),
                126, 0, 0, 0, 4, 0, 0, 255, 255, 255, 255, 255, 255, 255, 255, 252, 126);
        });
    }

    private static void wrapping() {
        holds("its number modulo 256 (of data that of the message, of a turn how many turns the "
            + "station has passed before);", () -> {
            TurnLine line = new TurnLine();
            runFar(line, 510);
            dueWire("turn 255", line, 126, 1, 255, 0, 4, 0, 0, 4, 126);
            dueNext("turn 255", line, 1, 0, 255, 9, 510);
            line.run(2);
            dueWire("turn 256", line, 126, 1, 0, 0, 4, 0, 0, 5, 126);
            dueNext("turn 256", line, 1, 0, 256, 9, 512);
            line.run(1);
            dueWire("turn 256 of 1", line, 126, 3, 0, 0, 4, 0, 0, 7, 126);
            line.run(1);
            dueWire("turn 257", line, 126, 1, 1, 0, 4, 0, 0, 6, 126);
            due("the passed turns", 257, () -> line.station(1, 9));
        });
        holds("accepted modulo 256, the own limit modulo 256, wanted, returned modulo 256;", () -> {
            greatestHead();
            greatestWanted();
            returnedWraps();
        });
    }

    /** 20 accepted and 20 read, with a capacity of 9. */
    private static void greatestHead() {
        TurnLine line = Check.lineOf("line 7 5;window 1 9;" + messages(0, 20));
        line.run(9);
        line.read(1, 7);
        line.run(4);
        line.read(1, 2);
        line.run(9);
        line.read(1, 7);
        line.run(4);
        line.run(1);
        dueWire("message 19", line, 126, 0, 19, 0, 4, 0, 0, 1, 24, 126);
        line.run(2);
        due("all were read", 0, () -> line.read(1, 4));
        dueWire("accepted 20, limit 29", line, 126, 3, 4, 20, 29, 0, 0, 56, 126);
    }

    private static void greatestWanted() {
        TurnLine line = Check.lineOf("line 3 20;window 0 9;");
        line.askBack(0, 8);
        dueWire("wanted 8", line, 126, 1, 0, 0, 9, 8, 0, 18, 126);
        line.put(0, 1, 5L);
        dueWire("wanted 8 in data", line, 126, 0, 0, 0, 9, 8, 0, 5, 22, 126);
        line.undo();
        line.run(1);
        dueWire("returned 8", line, 126, 3, 0, 0, 4, 0, 8, 15, 126);
    }

    /** 255, 256 and 257 returned: the listener's capacity is less by just the difference. */
    private static void returnedWraps() {
        TurnLine line = Check.lineOf("line 1 1;window 0 9;");
        for (int n = 0; n < 31; n++) {
            line.askBack(0, 8);
            line.run(2);
            line.grow(0, 8);
        }
        line.askBack(0, 7);
        line.run(1);
        dueWire("255 returned", line, 126, 3, 31, 0, 4, 0, 255, 37, 126);
        line.run(1);
        dueStation("255 noted", line, 0, 0, 0, 0, 2, 0, 0);
        line.grow(0, 7);
        line.askBack(0, 1);
        line.run(1);
        due("256 returned", 256, () -> line.station(1, 5));
        dueWire("256 returned", line, 126, 3, 32, 0, 4, 0, 0, 39, 126);
        line.run(1);
        dueStation("256 noted", line, 0, 0, 0, 0, 8, 0, 0);
        line.askBack(0, 1);
        line.run(1);
        dueWire("257 returned", line, 126, 3, 33, 0, 4, 0, 1, 41, 126);
        line.run(1);
        dueStation("257 noted", line, 0, 0, 0, 0, 7, 0, 0);
    }

    private static void escapes() {
        holds("On the line the byte 126 stands before and behind them, and each of them that is "
            + "125 or 126 becomes two bytes: 125, and the byte XOR 32.", () -> {
            dueWire("124 to 127", Check.lineOf("line 3 20;message 0 124 125 126 127;"),
                126, 0, 0, 0, 4, 0, 0, 124, 125, 93, 125, 94, 127, 250, 126);
            dueWire("93 and 94", Check.lineOf("line 3 20;message 0 93 94;"),
                126, 0, 0, 0, 4, 0, 0, 93, 94, 191, 126);
            escapedSums();
            escapedNumbers();
            escapedReturned();
        });
        holds("Each byte on the line takes one tick.", () -> {
            TurnLine line = Check.lineOf("line 3 20;message 0 125 126 1;message 0 9;");
            due("14 bytes", 14, () -> line.next(3));
            due("14 ticks", 14, () -> line.run(1));
            due("and 10", 24, () -> line.run(1));
            due("and 9", 33, () -> line.run(1));
            due("bytes on the line", 33, () -> line.account(6));
        });
    }

    private static void escapedSums() {
        dueWire("a sum of 124", Check.lineOf("line 3 20;message 0 120;"),
            126, 0, 0, 0, 4, 0, 0, 120, 124, 126);
        dueWire("a sum of 125", Check.lineOf("line 3 20;message 0 121;"),
            126, 0, 0, 0, 4, 0, 0, 121, 125, 93, 126);
        dueWire("a sum of 126", Check.lineOf("line 3 20;message 0 122;"),
            126, 0, 0, 0, 4, 0, 0, 122, 125, 94, 126);
        dueWire("a sum of 127", Check.lineOf("line 3 20;message 0 123;"),
            126, 0, 0, 0, 4, 0, 0, 123, 127, 126);
        dueWire("a sum of 256 + 126", Check.lineOf("line 3 20;message 0 255 123;"),
            126, 0, 0, 0, 4, 0, 0, 255, 123, 125, 94, 126);
    }

    private static void escapedNumbers() {
        TurnLine line = new TurnLine();
        runFar(line, 240);
        dueWire("turn 120, a sum of 125", line, 126, 1, 120, 0, 4, 0, 0, 125, 93, 126);
        line.run(8);
        dueWire("turn 124", line, 126, 1, 124, 0, 4, 0, 0, 129, 126);
        line.run(2);
        dueWire("turn 125", line, 126, 1, 125, 93, 0, 4, 0, 0, 130, 126);
        line.run(1);
        dueWire("turn 125 of 1", line, 126, 3, 125, 93, 0, 4, 0, 0, 132, 126);
        line.run(1);
        dueWire("turn 126", line, 126, 1, 125, 94, 0, 4, 0, 0, 131, 126);
        line.run(2);
        dueWire("turn 127", line, 126, 1, 127, 0, 4, 0, 0, 132, 126);
    }

    private static void escapedReturned() {
        TurnLine line = Check.lineOf("line 1 1;window 0 9;");
        for (int n = 0; n < 15; n++) {
            line.askBack(0, 8);
            line.run(2);
            line.grow(0, 8);
        }
        line.askBack(0, 5);
        line.run(1);
        dueWire("125 returned", line, 126, 3, 15, 0, 4, 0, 125, 93, 147, 126);
        line.run(1);
        due("125 noted", 4, () -> line.station(0, 3));
        line.askBack(0, 1);
        line.run(1);
        dueWire("126 returned", line, 126, 3, 16, 0, 4, 0, 125, 94, 149, 126);
        line.run(1);
        due("126 noted", 3, () -> line.station(0, 3));
    }

    private static void numbering() {
        holds("The frames of both stations together are numbered in the order in which they are "
            + "sent.", () -> {
            TurnLine line = Check.lineOf("line 1 9;message 0 1;message 1 1;lose 1;");
            int[] talkers = {0, 0, 0, 1, 1, 0};
            for (int frame = 0; frame < talkers.length; frame++) {
                due("the number", frame, () -> line.next(4));
                due("the talker of frame " + frame, talkers[frame], () -> line.next(1));
                line.run(1);
            }
        });
        holds("A frame whose number is told to be lost takes its time, but does not arrive.", () -> {
            TurnLine line = Check.lineOf("line 2 9;message 0 1 2;message 0 2;lose 0;lose 2;lose 9;");
            line.grow(0, 2);
            due("its time", 11, () -> line.run(1));
            due("not accepted", 0, () -> line.station(1, 1));
            due("its limit is not known", 4, () -> line.station(1, 7));
            due("the next one arrives", 21, () -> line.run(1));
            due("the limit is known", 6, () -> line.station(1, 7));
            due("a turn and a silence", 39, () -> line.run(1));
            due("the turn is not passed", 0, () -> line.size(3));
            due("the turn arrives", 48, () -> line.run(1));
            due("the turn is passed", 1, () -> line.size(3));
            due("one frame beside the told ones", 2, () -> line.account(1));
        });
    }

    private static void arriving() {
        holds("When a frame arrives, the other station notes accepted and limit.", () -> {
            TurnLine line = Check.lineOf("line 1 9;window 0 1;message 0 1;message 1 1;message 1 2;");
            line.run(3);
            line.read(0, 1);
            dueStation("before", line, 1, 2, 1, 0, 4, 0, 0, 0, 1);
            // the turn of 1 passes, then data of 0 would be next if there was any
            line.run(1);
            dueStation("a frame of 1 has arrived", line, 0, 1, 1, 1, 1, 0, 0, 1, 4);
            line.put(0, 1, 5L);
            line.run(1);
            dueStation("data of 0 has arrived", line, 1, 2, 2, 0, 4, 0, 0, 1, 2);
        });
        holds("If more is returned than it has noted so far, the difference is taken from its "
            + "capacity and from its wanted.", () -> {
            notedOnce("line 2 9;window 0 5;message 1 1;message 1 2;", 1);
            notedOnce("line 2 9;window 0 5;message 1 1;message 1 2;lose 1;", 2);
            notedOnce("line 2 9;window 0 5;message 1 1;message 1 2;lose 1;lose 2;lose 3;", 4);
        });
        holds("For data: if the number of the message is the number of messages that it has "
            + "accepted, it accepts the message, otherwise the frame is useless.", () -> {
            TurnLine line = Check.lineOf("line 3 9;" + messages(0, 3) + "lose 1;");
            line.run(1);
            due("message 0 is accepted", 1, () -> line.station(1, 1));
            line.run(1);
            due("message 1 is lost, not useless", 0, () -> line.account(9));
            line.run(1);
            due("message 2 is not accepted", 1, () -> line.station(1, 1));
            due("it is useless", 1, () -> line.account(9));
            line.run(3);
            due("message 1 is accepted", 2, () -> line.station(1, 1));
            line.run(1);
            due("message 2 is accepted", 3, () -> line.station(1, 1));
            due("and not useless", 1, () -> line.account(9));
            TurnLine lost = Check.lineOf("line 2 9;" + messages(0, 2) + "lose 0;lose 1;");
            lost.run(2);
            due("what does not arrive is not useless", 0, () -> lost.account(9));
        });
    }

    /** Two are returned; of the frames that tell so, the first that arrives is the first here. */
    private static void notedOnce(String text, int first) {
        TurnLine line = Check.lineOf(text);
        line.askBack(0, 2);
        line.run(1);
        for (int frame = 1; frame < first; frame++) {
            line.run(1);
            dueStation("not noted: " + text, line, 0, 0, 0, 0, 5, 2, 0);
        }
        line.run(1);
        due("noted: " + text, 3, () -> line.station(0, 3));
        due("nothing is wanted: " + text, 0, () -> line.station(0, 4));
        while (line.size(3) == 1) {
            line.run(1);
        }
        due("noted once: " + text, 3, () -> line.station(0, 3));
        due("wanted noted once: " + text, 0, () -> line.station(0, 4));
        line.askBack(0, 1);
        // a turn of 0, and all of 1
        do {
            line.run(1);
        } while (line.size(3) == 1);
        due("only the difference: " + text, 2, () -> line.station(0, 3));
        due("nothing is wanted any more: " + text, 0, () -> line.station(0, 4));
        due("altogether: " + text, 3, () -> line.station(1, 5));
    }

    private static void sending() {
        holds("At first station 0 is the talker, at the beginning of its turn; the other station "
            + "listens.", () -> {
            TurnLine line = Check.lineOf("line 3 20;message 1 1;");
            dueSizes("at first", line, 3, 20, 0, 0, 0);
            dueNext("at first", line, 1, 0, 0, 9, 0, 0);
        });
        String data = "In its turn the talker sends data, ";
        holds(data + "from the message on whose number is the accepted that it knows, one message "
            + "after the other,", () -> {
            TurnLine all = Check.lineOf("line 2 9;" + messages(0, 3) + "lose 0;");
            dueMessages(all, 0, 1, NONE, 0, 1, NONE, 2);
            TurnLine second = Check.lineOf("line 2 9;" + messages(0, 3) + "lose 1;");
            dueMessages(second, 0, 1, NONE, 1, 2, NONE);
            TurnLine turn = Check.lineOf("line 2 9;" + messages(0, 4) + "lose 2;");
            dueMessages(turn, 0, 1, NONE, NONE, 2, 3);
        });
        holds("as long as there is one,", () -> {
            dueMessages(new TurnLine(), NONE);
            TurnLine line = Check.lineOf("line 7 9;" + messages(0, 1));
            dueMessages(line, 0);
            due("there is none any more", 1, () -> line.next(0));
            line.put(0, 1, 5L);
            dueNext("there is one again", line, 0, 0, 1);
            dueMessages(line, 1, NONE);
        });
        holds("its number is less than the limit that it knows,", () -> {
            dueMessages(Check.lineOf("line 7 9;window 1 1;" + messages(0, 9)), 0, NONE, NONE);
            dueMessages(Check.lineOf("line 7 9;window 1 2;" + messages(0, 9)), 0, 1, NONE, NONE);
            dueMessages(Check.lineOf("line 7 9;" + messages(0, 9)), 0, 1, 2, 3, NONE, NONE);
            dueMessages(Check.lineOf("line 7 9;window 1 9;" + messages(0, 12)),
                0, 1, 2, 3, 4, 5, 6, NONE, 7, 8, NONE, NONE);
            // a limit that a lost message leaves behind is the same for the message once more
            dueMessages(Check.lineOf("line 7 9;window 1 2;" + messages(0, 9) + "lose 0;"),
                0, 1, NONE, 0, 1, NONE, NONE);
        });
        holds("and fewer than burst frames of data were sent in this turn.", () -> {
            dueMessages(Check.lineOf("line 1 9;" + messages(0, 3)), 0, NONE, 1, NONE, 2, NONE);
            dueMessages(Check.lineOf("line 2 9;" + messages(0, 3)), 0, 1, NONE, 2, NONE);
            dueMessages(Check.lineOf("line 7 9;window 1 9;" + messages(0, 8)),
                0, 1, 2, 3, 4, 5, 6, NONE, 7, NONE);
            // lost ones were sent
            dueMessages(Check.lineOf("line 2 9;" + messages(0, 3) + "lose 0;lose 1;"),
                0, 1, NONE, 0, 1, NONE, 2);
        });
        holds("Then it sends a turn.", () -> {
            TurnLine line = Check.lineOf("line 1 9;message 0 1;message 0 2;");
            due("data", 0, () -> line.next(0));
            line.run(1);
            due("then a turn", 1, () -> line.next(0));
            due("by the same talker", 0, () -> line.next(1));
        });
    }

    /** The messages that station 0 sends, NONE for its turn; the turns of 1 are run over. */
    private static void dueMessages(TurnLine line, int... messages) {
        for (int i = 0; i < messages.length; i++) {
            boolean isTurn = messages[i] == NONE;
            due("the type of " + i, isTurn ? 1 : 0, () -> line.next(0));
            if (!isTurn) {
                due("the number of " + i, messages[i], () -> line.next(2));
            }
            line.run(1);
            if (line.size(3) == 1) {
                line.run(1);
            }
        }
    }

    private static void passing() {
        holds("If the turn arrives, the turn is passed: the other station is the talker, at the "
            + "beginning of its turn.", () -> {
            TurnLine line = Check.lineOf("line 2 9;message 0 1;message 1 1;message 1 2;message 1 3;");
            line.run(1);
            due("one of data", 1, () -> line.size(4));
            line.run(1);
            dueSizes("passed", line, 2, 9, 19, 1, 0);
            due("passed turns of 0", 1, () -> line.station(0, 9));
            due("passed turns of 1", 0, () -> line.station(1, 9));
            dueNext("its first frame", line, 0, 1, 0);
            line.run(2);
            due("two of data", 2, () -> line.size(4));
            line.run(1);
            dueSizes("passed back", line, 2, 9, 48, 0, 0);
            due("passed turns of 1", 1, () -> line.station(1, 9));
        });
        holds("A step is one frame that is sent, for a lost turn also the silence behind it.", () -> {
            TurnLine line = Check.lineOf("line 3 50;message 0 1;lose 0;lose 1;");
            due("lost data", 10, () -> line.run(1));
            due("a lost turn", 69, () -> line.run(1));
            due("a turn", 78, () -> line.run(1));
            dueAccounts("three steps", line, 3, 2, 1, 0, 2, 1, 28, 0, 50, 0);
        });
    }

    private static void returning() {
        holds("First it returns capacity: the wanted that the turn told, but at most the limit "
            + "that it knows minus the number of its messages that it ever sent", () -> {
            for (int sent = 0; sent <= 4; sent++) {
                for (int wanted = 1; wanted <= 3; wanted++) {
                    returned(sent, wanted, Math.min(wanted, 4 - sent));
                }
            }
            TurnLine late = new TurnLine();
            late.run(2);
            late.askBack(1, 2);
            late.run(1);
            due("no turn has told it", 0, () -> late.station(0, 5));
            late.run(1);
            due("the turn has told it", 2, () -> late.station(0, 5));
            TurnLine lost = Check.lineOf("line 3 20;lose 0;");
            lost.askBack(0, 2);
            lost.run(1);
            due("a lost turn has not told it", 0, () -> lost.station(1, 5));
            lost.run(1);
            due("the turn that arrived has", 2, () -> lost.station(1, 5));
        });
        holds("(each counted once);", () -> {
            TurnLine line = Check.lineOf("line 1 9;message 0 1;message 0 2;lose 0;");
            line.run(5);
            due("sent twice", 1, () -> line.account(3));
            due("counted once", 1, () -> line.station(0, 8));
            line.askBack(1, 3);
            line.run(1);
            due("four less one", 3, () -> line.station(0, 5));
        });
        holds("the limit that it knows becomes less by that, and its returned greater.", () -> {
            TurnLine line = Check.lineOf("line 7 9;window 1 6;" + messages(0, 3));
            line.run(4);
            line.askBack(1, 5);
            line.run(1);
            dueStation("three of five", line, 0, 3, 0, 0, 4, 0, 3, 3, 3, 3);
            line.put(0, 1, 5L);
            due("no room for one more", 1, () -> line.next(0));
            line.run(2);
            due("noted, and none is free", 3, () -> line.station(0, 5));
            line.read(1, 1);
            line.run(2);
            dueStation("one more", line, 0, 4, 0, 0, 4, 0, 4, 3, 3, 3);
        });
    }

    /** Station 0 knows a limit of 4 and has sent so many when 1 tells what it wants. */
    private static void returned(int sent, int wanted, int due) {
        String when = sent + " sent, " + wanted + " wanted: ";
        TurnLine line = Check.lineOf("line 7 9;" + messages(0, sent));
        line.run(sent + 1);
        line.askBack(1, wanted);
        line.run(1);
        due(when + "returned", due, () -> line.station(0, 5));
        due(when + "the limit", 4 - due, () -> line.station(0, 7));
        line.run(1);
        due(when + "the capacity", 4 - due, () -> line.station(1, 3));
        due(when + "still wanted", wanted - due, () -> line.station(1, 4));
    }

    private static void losingTurns() {
        holds("If the turn is lost, the line is silent for silence ticks;", () -> {
            for (int silence = 1; silence <= 99; silence += 49) {
                TurnLine line = Check.lineOf("line 1 " + silence + ";lose 0;lose 1;");
                due("a lost turn", 9 + silence, () -> line.run(1));
                due("one more", 2 * (9 + silence), () -> line.run(1));
                due("one that arrives", 2 * (9 + silence) + 9, () -> line.run(1));
                due("the silence", 2 * silence, () -> line.account(8));
            }
            TurnLine data = Check.lineOf("line 1 99;message 0 1;lose 0;");
            due("no silence behind data", 10, () -> data.run(1));
        });
        holds("then the talker sends the turn once more (with what is so then), again and again "
            + "until it arrives.", () -> {
            TurnLine line = Check.lineOf("line 1 30;message 1 1;lose 0;lose 1;lose 2;");
            line.run(1);
            line.put(0, 1, 7L);
            dueNext("no data before it arrives", line, 1, 0, 0, 9, 1, 1);
            line.set(5, 40);
            line.askBack(0, 2);
            dueWire("with what is wanted then", line, 126, 1, 0, 0, 4, 2, 0, 7, 126);
            line.run(1);
            line.askBack(0, 1);
            dueWire("and what is wanted then", line, 126, 1, 0, 0, 4, 3, 0, 8, 126);
            line.run(1);
            dueSizes("the talker stays", line, 5, 40, 137, 0, 0);
            due("no turn was passed", 0, () -> line.station(0, 9));
            line.run(1);
            dueSizes("it arrives", line, 5, 40, 146, 1, 0);
            due("one turn was passed", 1, () -> line.station(0, 9));
            due("the latest was told", 3, () -> line.station(1, 5));
            dueAccounts("at last", line, 4, 3, 0, 0, 4, 3, 36, 0, 110, 0);
            line.run(2);
            dueNext("the message that waited", line, 0, 0, 0);
        });
    }
}
