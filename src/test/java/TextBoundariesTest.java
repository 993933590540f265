import java.nio.charset.StandardCharsets;
import java.util.Arrays;

/** The boundary cases of the part TEXT of the terms, and of promises 1 to 3. */
public final class TextBoundariesTest extends Answers {
    private static final String TERMS = "Terms";
    private static final int SYNTAX = 1;
    private static final int REPEATED = 2;
    private static final int RANGE = 3;
    private static final int TOO_MANY = 4;
    private static final String EIGHT_BYTES = "line 3 20;message 0 1 2 3 4 5 6 7 8";
    private static final String TWENTY_MESSAGES = "line 3 20;" + "message 1 1;".repeat(20);
    private static final String TWENTY_TOLD = twentyTold();

    private TextBoundariesTest() {
    }

    public static void main(String[] args) {
        buffer();
        tokens();
        grammar();
        ranges();
        limits();
        errorOrder();
        errorKinds();
        newObject();
        append();
        parse();
        parseLeavesAndEmpties();
        Check.end("TextBoundariesTest");
    }

    private static String twentyTold() {
        StringBuilder told = new StringBuilder("line 3 20;");
        for (int frame = 10; frame < 30; frame++) {
            told.append("lose ").append(frame).append(';');
        }
        return told.toString();
    }

    private static int faultOf(int offset, int kind) {
        return -2 - (8 * offset + kind);
    }

    /** The text is read; how many messages it has. */
    private static void reads(String text, int messages) {
        due("parse of <" + text + ">", messages, () -> Check.parse(new TurnLine(), text));
    }

    /** The text is refused, and all but the buffer stays as it is. */
    private static void fault(String text, int offset, int kind) {
        due("parse of <" + text + ">", faultOf(offset, kind),
            () -> Check.parse(new TurnLine(), text));
        Look.same("after parse of <" + text + ">", Answers::busyWithoutText, () -> {
            TurnLine line = busyWithoutText();
            Check.parse(line, text);
            return line;
        });
    }

    private static void buffer() {
        Check.holds(TERMS, "The input buffer holds at most 700 bytes.", () -> {
            reads("line 3 20" + " ".repeat(690) + ";", 0);
            fault("line 3 20;" + " ".repeat(689) + "x", 699, SYNTAX);
            TurnLine line = new TurnLine();
            Check.feed(line, " ".repeat(700));
            due("append to 700 bytes", NONE, () -> Check.appendTwenty(line, new byte[20]));
            due("parse(701)", ARGUMENT, () -> line.parse(701));
            due("parse(720)", ARGUMENT, () -> line.parse(720));
            due("parse(700)", faultOf(700, SYNTAX), () -> line.parse(700));
        });
    }

    private static void tokens() {
        Check.holds(TERMS, "Bytes 32 (space) and 10 (line feed) are white space; they may stand "
            + "between tokens and are otherwise ignored.", TextBoundariesTest::whiteSpace);
        Check.holds(TERMS, "a word (a maximal run of lower-case letters a to z, 1 to 8 letters "
            + "long)", TextBoundariesTest::words);
        Check.holds(TERMS, "a number (a maximal run of digits, 1 to 3 digits long)",
            TextBoundariesTest::numbers);
        Check.holds(TERMS, "or a semicolon.", () -> {
            reads("line 3 20;", 0);
            fault("line 3 20:", 9, SYNTAX);
            fault("line 3 20<", 9, SYNTAX);
            fault("line 3 20;;", 10, SYNTAX);
            fault("line 3 20; ;", 11, SYNTAX);
        });
        Check.holds(TERMS, "Any other byte, and any longer run, is an illegal token that starts "
            + "at its first byte.", () -> {
            otherBytes();
            longerRuns();
        });
    }

    private static void whiteSpace() {
        reads("line 3 20;", 0);
        reads(" \n \n\nline\n\n3 \n 20\n;\n \n", 0);
        reads("line3 20;message0 1;lose0;window0 9;", 1);
        reads("line 3 20 ; message 1 2 \n 3 ; lose 4 ; window 1 5 ; ", 1);
        // white space parts what would be one token without it
        fault("li ne 3 20;", 0, SYNTAX);
        fault("line 3 2 0;", 9, SYNTAX);
        fault("line 3 20;lose 5 0;", 17, SYNTAX);
        int[] others = {0, 9, 11, 12, 13, 31, 33, 127, 128, 160, 255};
        for (int other : others) {
            fault("line" + (char) other + "3 20;", 4, SYNTAX);
            fault("line 3 20;" + (char) other, 10, SYNTAX);
        }
    }

    private static void words() {
        fault("l 3 20;", 0, SYNTAX);
        fault("lin 3 20;", 0, SYNTAX);
        fault("mine 3 20;", 0, SYNTAX);
        fault("lint 3 20;", 0, SYNTAX);
        fault("line 3 20;bindow 0 1;", 10, SYNTAX);
        fault("line 3 20;massage 0 1;", 10, SYNTAX);
        fault("line 3 20;lost 1;", 10, SYNTAX);
        fault("lines 3 20;", 0, SYNTAX);
        fault("linea 3 20;", 0, SYNTAX);
        fault("linez 3 20;", 0, SYNTAX);
        fault("lineline 3 20;", 0, SYNTAX);
        fault("linelines 3 20;", 0, SYNTAX);
        fault("line 3 20;losewindow 5 5;", 10, SYNTAX);
        fault("line 3 20;messages 0 1;", 10, SYNTAX);
        fault("line 3 20;windows 0 1;", 10, SYNTAX);
        fault("line 3 20;los 1;", 10, SYNTAX);
        fault("Line 3 20;", 0, SYNTAX);
        fault("linE 3 20;", 0, SYNTAX);
        fault("line 3 20;LOSE 1;", 10, SYNTAX);
        fault("line 3 20;lose` 1;", 14, SYNTAX);
        fault("line 3 20;lose{ 1;", 14, SYNTAX);
        fault("line 3 20;`lose 1;", 10, SYNTAX);
        // a to z: both ends begin a word that cannot continue a line, as one whole token
        fault("line 3 20;a;", 10, SYNTAX);
        fault("line 3 20;z;", 10, SYNTAX);
        fault("line 3 20;message 0 a;", 20, SYNTAX);
        fault("line 3 20;message 0 z;", 20, SYNTAX);
    }

    private static void numbers() {
        reads("line 3 9;", 0);
        reads("line 03 09;", 0);
        reads("line 003 099;", 0);
        fault("line 0003 20;", 5, SYNTAX);
        fault("line 3 0020;", 7, SYNTAX);
        fault("line 1000 20;", 5, SYNTAX);
        fault("line 999 20;", 5, RANGE);
        reads("line 3 20;window 001 009;message 001 000 255;lose 000;lose 499;", 1);
        fault("line 3 20;window 0001 9;", 17, SYNTAX);
        fault("line 3 20;window 1 0009;", 19, SYNTAX);
        fault("line 3 20;message 0001 9;", 18, SYNTAX);
        fault("line 3 20;message 1 0009;", 20, SYNTAX);
        fault("line 3 20;message 1 9 0009;", 22, SYNTAX);
        fault("line 3 20;lose 0009;", 15, SYNTAX);
        // a maximal run: not two numbers
        fault("line 320;", 5, RANGE);
        fault("line 3 20;window 04;", 17, RANGE);
        due("/ and : beside the digits", faultOf(5, SYNTAX),
            () -> Check.parse(new TurnLine(), "line / 20;"));
        fault("line 3/ 20;", 6, SYNTAX);
        fault("line 3: 20;", 6, SYNTAX);
        fault("line -3 20;", 5, SYNTAX);
        fault("line +3 20;", 5, SYNTAX);
    }

    /** Each byte in the place of the burst: only 1 to 7 can stand there, 0, 8 and 9 can't. */
    private static void otherBytes() {
        for (int b = 0; b < 256; b++) {
            String text = "line " + (char) b + " 20;";
            if (b >= '1' && b <= '7') {
                reads(text, 0);
            } else if (b == 32 || b == 10) {
                fault(text, 7, RANGE);
            } else {
                fault(text, 5, b == '0' || b == '8' || b == '9' ? RANGE : SYNTAX);
            }
        }
    }

    private static void longerRuns() {
        fault("line   1000 20;", 7, SYNTAX);
        fault("line 3 20;\n abcdefghi 3;", 12, SYNTAX);
        fault("line 3 20;lose abcdefghi;", 15, SYNTAX);
        // numbers that would be in their range if they were cut or wrapped around
        fault("line 4294967299 20;", 5, SYNTAX);
        fault("line 3 18446744073709551636;", 7, SYNTAX);
        fault("line 3 20;lose 00000000000000000000000000000005;", 15, SYNTAX);
        fault("line 3 20;lose " + "0".repeat(685), 15, SYNTAX);
        fault("line 3 20;" + "a".repeat(690), 10, SYNTAX);
    }

    private static void grammar() {
        Check.holds(TERMS, "line = \"line\" burst silence \";\" { statement \";\" }", () -> {
            reads("line 3 20;", 0);
            fault("", 0, SYNTAX);
            fault(";", 0, SYNTAX);
            fault("3 20;", 0, SYNTAX);
            fault("line ;", 5, SYNTAX);
            fault("line 3;", 6, SYNTAX);
            fault("line 3 20 20;", 10, SYNTAX);
            fault("line 3 20 lose 1;", 10, SYNTAX);
            fault("line 3 20;line 3 20;", 10, SYNTAX);
            fault("line 3 20;7;", 10, SYNTAX);
            fault("line 3 20;lose 1 lose 2;", 17, SYNTAX);
            reads("line 3 20;lose 1;lose 2;window 0 1;lose 3;message 1 7;", 1);
        });
        Check.holds(TERMS, "\"window\" station capacity", () -> {
            reads("line 3 20;window 1 2;", 0);
            fault("line 3 20;window;", 16, SYNTAX);
            fault("line 3 20;window 1;", 18, SYNTAX);
            fault("line 3 20;window 1 2 3;", 21, SYNTAX);
        });
        Check.holds(TERMS, "\"message\" station byte { byte }", () -> {
            reads("line 3 20;message 1 2;", 1);
            reads("line 3 20;message 1 2 3;", 1);
            fault("line 3 20;message;", 17, SYNTAX);
            fault("line 3 20;message 1;", 19, SYNTAX);
            fault("line 3 20;message 1 2 message 1 3;", 22, SYNTAX);
        });
        Check.holds(TERMS, "\"lose\" frame", () -> {
            reads("line 3 20;lose 1;", 0);
            fault("line 3 20;lose;", 14, SYNTAX);
            fault("line 3 20;lose 1 2;", 17, SYNTAX);
        });
        Check.holds(TERMS, "All items that are not quoted are numbers.", () -> {
            fault("line burst 20;", 5, SYNTAX);
            fault("line 3 line;", 7, SYNTAX);
            fault("line 3 20;window lose 1;", 17, SYNTAX);
            fault("line 3 20;window 0 window;", 19, SYNTAX);
            fault("line 3 20;message station 1;", 18, SYNTAX);
            fault("line 3 20;message 0 byte;", 20, SYNTAX);
            fault("line 3 20;lose frame;", 15, SYNTAX);
        });
    }

    private static void ranges() {
        Check.holds(TERMS, "burst 1 to 7", () -> {
            fault("line 0 20;", 5, RANGE);
            dueSizes("burst 1", Check.lineOf("line 1 20;"), 1, 20);
            dueSizes("burst 7", Check.lineOf("line 7 20;"), 7, 20);
            fault("line 8 20;", 5, RANGE);
        });
        Check.holds(TERMS, "silence 1 to 99", () -> {
            fault("line 3 0;", 7, RANGE);
            dueSizes("silence 1", Check.lineOf("line 3 1;"), 3, 1);
            dueSizes("silence 99", Check.lineOf("line 3 99;"), 3, 99);
            fault("line 3 100;", 7, RANGE);
        });
        Check.holds(TERMS, "station 0 or 1", () -> {
            reads("line 3 20;window 0 5;window 1 5;message 0 5;message 1 5;", 2);
            fault("line 3 20;window 2 5;", 17, RANGE);
            fault("line 3 20;message 2 5;", 18, RANGE);
            fault("line 3 20;window 999 5;", 17, RANGE);
        });
        Check.holds(TERMS, "capacity 1 to 9 (4 without the statement)", () -> {
            fault("line 3 20;window 0 0;", 19, RANGE);
            fault("line 3 20;window 1 10;", 19, RANGE);
            TurnLine ends = Check.lineOf("line 3 20;window 0 1;window 1 9;");
            due("capacity 1", 1, () -> ends.station(0, 3));
            due("capacity 9", 9, () -> ends.station(1, 3));
            TurnLine one = Check.lineOf("line 3 20;window 1 9;");
            due("without the statement", 4, () -> one.station(0, 3));
            // nothing of an earlier line stays
            Check.parse(ends, "line 3 20;");
            due("in the next line", 4, () -> ends.station(0, 3));
            due("in the next line", 4, () -> ends.station(1, 3));
        });
        Check.holds(TERMS, "byte 0 to 255", () -> {
            TurnLine line = Check.lineOf("line 3 20;message 0 0 255;message 1 255;");
            due("byte 0", 0, () -> line.messageByte(0, 0, 0));
            due("byte 255", 255, () -> line.messageByte(0, 0, 1));
            due("byte 255 at first", 255, () -> line.messageByte(1, 0, 0));
            TurnLine eight = Check.lineOf("line 3 20;message 1" + " 0 255".repeat(4) + ";");
            for (int i = 0; i < 8; i++) {
                int k = i;
                due("byte " + i, i % 2 == 0 ? 0 : 255, () -> eight.messageByte(1, 0, k));
            }
            reads("line 3 20;message 0" + " 0".repeat(8) + ";message 1 7 0;", 2);
            fault("line 3 20;message 0 256;", 20, RANGE);
            fault("line 3 20;message 0 1 256;", 22, RANGE);
            fault("line 3 20;message 0 1 2 3 4 5 6 7 256;", 34, RANGE);
        });
        Check.holds(TERMS, "frame 0 to 499.", () -> {
            TurnLine line = Check.lineOf("line 3 20;lose 0;lose 499;");
            due("frame 0", true, () -> line.isTold(0));
            due("frame 499", true, () -> line.isTold(499));
            fault("line 3 20;lose 500;", 15, RANGE);
            fault("line 3 20;lose 999;", 15, RANGE);
        });
    }

    private static void limits() {
        Check.holds(TERMS, "There are at most 20 messages of each station", () -> {
            reads("line 3 20;" + "message 1 1;message 0 1;".repeat(20), 40);
            reads(TWENTY_MESSAGES + "message 0 1;", 21);
            fault(TWENTY_MESSAGES + "message 1 1;", 258, TOO_MANY);
            fault("line 3 20;" + "message 0 1;".repeat(21), 258, TOO_MANY);
        });
        Check.holds(TERMS, "with at most 8 bytes each", () -> {
            TurnLine line = Check.lineOf(EIGHT_BYTES + ";message 1 9;");
            due("the eighth byte", 8, () -> line.messageByte(0, 0, 7));
            due("a ninth byte", NONE, () -> line.messageByte(0, 0, 8));
            fault(EIGHT_BYTES + " 9;", 36, TOO_MANY);
        });
        Check.holds(TERMS, "and 20 frames that are told to be lost.", () -> {
            TurnLine line = Check.lineOf(TWENTY_TOLD);
            due("twenty", 20, () -> line.size(5));
            fault(TWENTY_TOLD + "lose 30;", 170, TOO_MANY);
        });
    }

    private static void errorOrder() {
        Check.holds(TERMS, "The parser reports the error with the lowest byte offset;", () -> {
            fault("line 9 0;", 5, RANGE);
            fault("line 8 x", 5, RANGE);
            fault("line 3 20;lose 500", 15, RANGE);
            fault("line 3 20;window 1 4;window 1 99;", 28, REPEATED);
            fault("line 3 20;lose 5;lose 5 6;", 22, REPEATED);
            fault("line 3 20;message 0 256 1000;", 20, RANGE);
            fault(TWENTY_MESSAGES + "message 1 256;", 258, TOO_MANY);
            fault(EIGHT_BYTES + " 9 256 x", 36, TOO_MANY);
            fault(TWENTY_TOLD + "lose 500;", 170, TOO_MANY);
            fault(TWENTY_TOLD + "lose 10;", 170, TOO_MANY);
            fault("line 3 x0 500;\u00ff", 7, SYNTAX);
        });
        Check.holds(TERMS, "of several kinds at one offset the lowest:", () -> {
            fault(EIGHT_BYTES + " 256;", 36, RANGE);
            fault(EIGHT_BYTES + " 999;", 36, RANGE);
            fault(EIGHT_BYTES + " 255;", 36, TOO_MANY);
            fault(EIGHT_BYTES + " 1000;", 36, SYNTAX);
            fault(EIGHT_BYTES + " 0000;", 36, SYNTAX);
            fault(EIGHT_BYTES + " lose", 36, SYNTAX);
            fault(TWENTY_MESSAGES + "message 2 1;", 258, RANGE);
            fault(TWENTY_MESSAGES + "message 1000 1;", 258, SYNTAX);
            fault(TWENTY_TOLD + "loses 1;", 170, SYNTAX);
            fault(TWENTY_TOLD + "loselosel 1;", 170, SYNTAX);
            fault("line 3 20;lose 5;lose 500;", 22, RANGE);
            fault("line 3 20;lose 5;lose 0005;", 22, SYNTAX);
            fault("line 3 20;window 0 5;window 0000 5;", 28, SYNTAX);
        });
    }

    private static void errorKinds() {
        Check.holds(TERMS, "1 (syntax): an illegal token, a token that cannot continue a line;",
            () -> {
            fault("line 3 20;window 0 ?", 19, SYNTAX);
            fault("line 3 20;window ; 5", 17, SYNTAX);
            fault("line 3 20;message 1 2 ,", 22, SYNTAX);
        });
        Check.holds(TERMS, "if the text ends too early, the offset is the length of the text.",
            TextBoundariesTest::endsTooEarly);
        Check.holds(TERMS, "2 (repeated): the station of a window that has one;", () -> {
            fault("line 3 20;window 0 4;window 0 4;", 28, REPEATED);
            fault("line 3 20;window 1 4;window 0 3;window 001 5;", 39, REPEATED);
            reads("line 3 20;window 1 4;window 0 4;", 0);
            // only within one text
            TurnLine line = Check.lineOf("line 3 20;window 1 4;");
            due("in the next text", 0, () -> Check.parse(line, "line 3 20;window 1 4;"));
        });
        Check.holds(TERMS, "the frame of a lose that is told already.", () -> {
            fault("line 3 20;lose 0;lose 0;", 22, REPEATED);
            fault("line 3 20;lose 499;lose 7;lose 499;", 31, REPEATED);
            fault("line 3 20;lose 7;lose 007;", 22, REPEATED);
            TurnLine line = Check.lineOf("line 3 20;lose 7;");
            due("in the next text", 0, () -> Check.parse(line, "line 3 20;lose 7;"));
        });
        Check.holds(TERMS, "3 (range): a number that is out of its range.", () -> {
            fault("line 0 20;", 5, RANGE);
            fault("line 3 000;", 7, RANGE);
            fault("line 3 20;lose 1;window 9 9;", 24, RANGE);
        });
        Check.holds(TERMS, "4 (too many): the station of its 21st message;", () -> {
            fault(TWENTY_MESSAGES + "message 1 1;", 258, TOO_MANY);
            fault(TWENTY_MESSAGES + "message 0 1;message 001", 270, TOO_MANY);
            due("the 20th", 20, () -> Check.parse(new TurnLine(), TWENTY_MESSAGES));
        });
        Check.holds(TERMS, "the ninth byte of a message;", () -> {
            reads(EIGHT_BYTES + ";", 1);
            fault(EIGHT_BYTES + " 0;", 36, TOO_MANY);
            fault(EIGHT_BYTES + " 9 10 11;", 36, TOO_MANY);
        });
        Check.holds(TERMS, "the word lose of a 21st frame.", () -> {
            reads(TWENTY_TOLD, 0);
            reads(TWENTY_TOLD + "window 0 1;message 0 1;", 1);
            fault(TWENTY_TOLD + "lose 30;", 170, TOO_MANY);
            fault(TWENTY_TOLD + "\n lose 30;", 172, TOO_MANY);
        });
    }

    /** Each beginning of a text that has each kind of statement. */
    private static void endsTooEarly() {
        String text = "line 3 20;window 0 5;message 1 7 8;lose 9;";
        int[] wholes = {10, 21, 35, 42};
        // a word that is cut short cannot continue a line: it is the error, not the end
        int[][] cutWords = {{0, 4}, {10, 16}, {21, 28}, {35, 39}};
        for (int length = 0; length <= text.length(); length++) {
            int offset = length;
            for (int[] word : cutWords) {
                if (length > word[0] && length < word[1]) {
                    offset = word[0];
                }
            }
            if (Arrays.binarySearch(wholes, length) >= 0) {
                reads(text.substring(0, length), length > 34 ? 1 : 0);
            } else {
                fault(text.substring(0, length), offset, SYNTAX);
            }
        }
        fault(" \n", 2, SYNTAX);
        fault("line 3 20 \n", 11, SYNTAX);
        fault("line 3 20;lose  \n ", 18, SYNTAX);
        fault("line 3 20;message 0 1 2 3 4 5 6 7 8 ", 36, SYNTAX);
    }

    private static void newObject() {
        String part = "Promise 1";
        Check.holds(part, "Creates a line as by the text \"line 3 20;\", with an empty input "
            + "buffer.", () -> {
            Look.same("a new object", () -> Check.lineOf("line 3 20;"), TurnLine::new);
            TurnLine line = new TurnLine();
            dueSizes("a new object", line, 3, 20, 0, 0, 0, 0, 0);
            dueStation("a new object", line, 0, 0, 0, 0, 4, 0, 0, 0, 4, 0, 0);
            dueStation("a new object", line, 1, 0, 0, 0, 4, 0, 0, 0, 4, 0, 0);
            dueAccounts("a new object", line, 0, 0, 0, 0, 0, 0, 0, 0, 0, 0);
            due("undo()", NONE, line::undo);
            due("restoreSnapshot(0)", false, () -> line.restoreSnapshot(0));
            due("restoreSnapshot(1)", false, () -> line.restoreSnapshot(1));
            due("parse(1)", ARGUMENT, () -> line.parse(1));
            due("parse(0)", faultOf(0, SYNTAX), () -> line.parse(0));
            due("the first append", 20, () -> Check.appendTwenty(line, new byte[20]));
        });
    }

    private static void append() {
        String part = "Promise 2";
        Check.holds(part, "Appends twenty bytes to the input buffer:", () -> {
            // the last of the twenty is the end of the line, and zeros are bytes as well
            TurnLine line = new TurnLine();
            Check.feed(line, " ".repeat(10) + "line 3 20;");
            due("parse(20)", 0, () -> line.parse(20));
            due("twenty zeros", 20, () -> line.append(0, 0, 0, 0, 0));
            due("parse(20) of zeros", faultOf(0, SYNTAX), () -> line.parse(20));
            Check.feed(line, "line 3 20;" + " ".repeat(10));
            line.append(0x20202020, 0x20202020, 0x20202020, 0x20202020, 0x2020203b);
            due("the fortieth byte", faultOf(39, SYNTAX), () -> line.parse(40));
        });
        Check.holds(part, "the four bytes of a, then those of b, c, d and e, each with the most "
            + "significant byte first.", () -> {
            for (int place = 0; place < 20; place++) {
                byte[] twenty = " ".repeat(20).getBytes(StandardCharsets.ISO_8859_1);
                // with a sign bit, which must not spread to the bytes beside it
                twenty[place] = (byte) 0x80;
                TurnLine line = new TurnLine();
                due("append", 20, () -> Check.appendTwenty(line, twenty));
                due("a byte at " + place, faultOf(place, SYNTAX), () -> line.parse(20));
            }
            TurnLine line = new TurnLine();
            // "line" " 1 2" ";los" "e 3;" "    "
            line.append(0x6c696e65, 0x20312032, 0x3b6c6f73, 0x6520333b, 0x20202020);
            due("parse", 0, () -> line.parse(20));
            due("the told frame", true, () -> line.isTold(3));
            due("MIN", 20, () -> line.append(MIN, MAX, -1, 0, MIN));
            due("its first byte", faultOf(0, SYNTAX), () -> line.parse(1));
        });
        Check.holds(part, "Returns the new length of the buffer;", () -> {
            TurnLine line = new TurnLine();
            for (int length = 20; length <= 700; length += 20) {
                due("append", length, () -> line.append(0, 0, 0, 0, 0));
            }
        });
        Check.holds(part, "NONE, with nothing appended, if the buffer would have more than 700 "
            + "bytes.", () -> {
            refused("append to 700 bytes", NONE, () -> fed(busyWithoutText(), 700),
                line -> line.append(0x3b3b3b3b, 0, 0, 0, -1));
            TurnLine line = fed(new TurnLine(), 680);
            due("append to 680 bytes", 700, () -> line.append(0x20202020, 0x20202020,
                0x20202020, 0x20202020, 0x20202020));
            due("append to 700 bytes", NONE, () -> line.append(1, 2, 3, 4, 5));
            due("once more", NONE, () -> line.append(1, 2, 3, 4, 5));
            due("parse(700)", 0, () -> line.parse(700));
            due("append to none", 20, () -> line.append(1, 2, 3, 4, 5));
        });
    }

    /** A line and white space, so many bytes in all. */
    private static TurnLine fed(TurnLine line, int bytes) {
        Check.feed(line, "line 5 50;" + " ".repeat(bytes - 10));
        return line;
    }

    private static void parse() {
        String part = "Promise 3";
        Check.holds(part, "`length`: number of bytes, 0 to the length of the buffer", () -> {
            due("parse(0) of 40", faultOf(0, SYNTAX), () -> fed(new TurnLine(), 40).parse(0));
            due("parse(40) of 40", 0, () -> fed(new TurnLine(), 40).parse(40));
            due("parse(0) of none", faultOf(0, SYNTAX), () -> new TurnLine().parse(0));
            due("parse(700) of 700", 0, () -> fed(new TurnLine(), 700).parse(700));
        });
        Check.holds(part, "Throws `IllegalArgumentException` if length is out of range (the "
            + "buffer stays as it is)", () -> {
            int[] lengths = {MIN, -20, -1, 41, 60, 700, 701, MAX};
            for (int length : lengths) {
                refused("parse(" + length + ") of 40", ARGUMENT, Answers::busy,
                    line -> line.parse(length));
            }
            refused("parse(1) of none", ARGUMENT, Answers::busyWithoutText,
                line -> line.parse(1));
            TurnLine line = fed(new TurnLine(), 40);
            due("parse(41)", ARGUMENT, () -> line.parse(41));
            due("parse(-1)", ARGUMENT, () -> line.parse(-1));
            due("append behind it", 60, () -> line.append(0, 0, 0, 0, 0));
            due("parse(40)", 0, () -> line.parse(40));
            dueSizes("the line", line, 5, 50);
        });
        Check.holds(part, "Parses the first length bytes of the input buffer as a line and "
            + "replaces the current one by it.", () -> {
            TurnLine line = busyWithoutText();
            Check.feed(line, "line 7 99;message 1 9;\u00ff and more");
            due("parse(22)", 1, () -> line.parse(22));
            dueSizes("the first 22 bytes", line, 7, 99, 0, 0, 0, 0, 0);
            // a number that the length cuts short is shorter
            Check.feed(line, "line 4 567;");
            due("parse(8)", faultOf(8, SYNTAX), () -> line.parse(8));
            Check.feed(line, "line 4 56;lose 123;");
            due("parse(18)", faultOf(18, SYNTAX), () -> line.parse(18));
            // what was fed before, past the length, is no part of a later text
            Check.feed(line, "line 4 56;lose 123;lose 124;");
            due("parse(10)", 0, () -> line.parse(10));
            due("nothing is told", 0, () -> line.size(5));
        });
        Check.holds(part, "Returns the number of messages of both stations; "
            + "-2 - (8 * offset + kind) for a syntax error.", () -> {
            reads("line 3 20;", 0);
            reads("line 3 20;message 0 1;", 1);
            reads("line 3 20;message 1 1;", 1);
            reads("line 3 20;" + "message 0 1;message 1 1;".repeat(20), 40);
            due("the least offset", -3, () -> Check.parse(new TurnLine(), ""));
            due("the greatest offset", -5603, () ->
                Check.parse(new TurnLine(), " ".repeat(700)));
            due("kind 1 at 5", -43, () -> Check.parse(new TurnLine(), "line ;"));
            due("kind 2 at 22", -180, () ->
                Check.parse(new TurnLine(), "line 3 20;lose 5;lose 5;"));
            due("kind 3 at 5", -45, () -> Check.parse(new TurnLine(), "line 8 20;"));
            due("kind 4 at 36", -294, () -> Check.parse(new TurnLine(), EIGHT_BYTES + " 9;"));
        });
    }

    private static void parseLeavesAndEmpties() {
        String part = "Promise 3";
        Check.holds(part, "After a success or a syntax error the whole buffer is empty.", () -> {
            TurnLine line = fed(new TurnLine(), 680);
            due("a success", 0, () -> line.parse(10));
            due("parse(1) of none", ARGUMENT, () -> line.parse(1));
            due("append to none", 20, () -> line.append(0, 0, 0, 0, 0));
            Check.feed(line, "line 3 20;");
            due("a syntax error", faultOf(0, SYNTAX), () -> line.parse(3));
            due("parse(1) of none", ARGUMENT, () -> line.parse(1));
            due("append to none", 20, () -> line.append(0, 0, 0, 0, 0));
            due("the text ends at once", faultOf(0, SYNTAX), () -> line.parse(0));
            due("append to none", 20, () -> line.append(0, 0, 0, 0, 0));
        });
        Check.holds(part, "After a syntax error everything else stays as it is.", () -> {
            // all but the last token was read before; each kind of error
            String most = "line 7 99;window 0 9;window 1 8;message 0 7;lose 3;";
            faultOfYoung(most + "?", most.length(), SYNTAX);
            faultOfYoung(most + "window 0 1;", most.length() + 7, REPEATED);
            faultOfYoung(most + "lose 500;", most.length() + 5, RANGE);
            faultOfYoung(EIGHT_BYTES + " 9;", 36, TOO_MANY);
        });
    }

    /** As well with a line whose undo history has room left. */
    private static void faultOfYoung(String text, int offset, int kind) {
        fault(text, offset, kind);
        Look.same("after parse of <" + text + ">", Answers::young, () -> {
            TurnLine line = young();
            Check.parse(line, text);
            return line;
        });
    }
}
