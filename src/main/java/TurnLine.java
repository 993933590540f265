/**
 * A line on which only one of two stations can talk at a time. What it must do stands in
 * ../shared/DOC.md as numbered promises; the words TEXT, STATIONS, FRAMES, TURNS and CHANGES in
 * the comments below are the terms of that document.
 */
public final class TurnLine {
    public static final int NONE = -1;

    private static final int NO_DELAY = NONE - 10000;
    private static final int FIRST_BURST = 3;
    private static final int FIRST_SILENCE = 20;
    private static final int FIRST_CAPACITY = 4;
    private static final int MOST_BURST = 7;
    private static final int MOST_SILENCE = 99;
    private static final int MOST_CAPACITY = 9;
    private static final int MOST_MESSAGES = 20;
    private static final int MOST_BYTES = 8;
    private static final int MOST_TOLD = 40;
    private static final int MOST_STEPS = 100;
    private static final int MOST_FRAMES = 2000;
    private static final int MOST_FORECAST = 600;
    private static final int MOST_UNDO = 10;

    private final TextReader reader;
    private final Line now;
    /** Never changed: each text begins with it. */
    private final Line fresh;
    private final Line draft;
    private final Frame coming;
    private final Forecast forecast;
    private final History history;
    private final Slot firstSlot;
    private final Slot secondSlot;

    public TurnLine() {
        reader = new TextReader();
        now = new Line();
        fresh = new Line();
        draft = new Line();
        coming = new Frame();
        forecast = new Forecast();
        history = new History();
        firstSlot = new Slot();
        secondSlot = new Slot();
    }

    // ---- line

    public int append(int a, int b, int c, int d, int e) {
        if (!reader.hasRoom()) {
            return NONE;
        }
        reader.addFour(a);
        reader.addFour(b);
        reader.addFour(c);
        reader.addFour(d);
        reader.addFour(e);
        return reader.filled;
    }

    public int parse(int length) throws IllegalArgumentException {
        if (length < 0 || length > reader.filled) {
            throw new IllegalArgumentException("no such length");
        }
        draft.copyFrom(fresh);
        int fault = reader.readText(length, draft);
        reader.filled = 0;
        if (fault != 0) {
            return -2 - fault;
        }
        now.copyFrom(draft);
        history.count = 0;
        firstSlot.isFull = false;
        secondSlot.isFull = false;
        return now.first.messages + now.second.messages;
    }

    public int size(int what) throws IllegalArgumentException {
        switch (what) {
            case 0: return now.burst;
            case 1: return now.silence;
            case 2: return now.time();
            case 3: return now.talker;
            case 4: return now.sentInTurn;
            case 5: return now.toldCount;
            case 6: return history.count;
            default: throw new IllegalArgumentException("no such size");
        }
    }

    public int station(int station, int what)
            throws IndexOutOfBoundsException, IllegalArgumentException {
        checkStation(station);
        if (what < 0 || what > 9) {
            throw new IllegalArgumentException("no such number of a station");
        }
        return now.side(station).numberOf(what);
    }

    public int messageByte(int station, int message, int k) throws IndexOutOfBoundsException {
        checkStation(station);
        Station owner = now.side(station);
        if (!owner.hasMessage(message)) {
            throw new IndexOutOfBoundsException("no such message");
        }
        return owner.byteOf(message, k);
    }

    public boolean isTold(int frame) {
        return now.tells(frame);
    }

    // ---- the next frame, and what could come; nothing changes

    public int next(int what) throws IllegalArgumentException {
        coming.fillFrom(now);
        switch (what) {
            case 0: return coming.isData ? 0 : 1;
            case 1: return now.talker;
            case 2: return coming.number;
            case 3: return coming.bytesOnLine();
            case 4: return now.framesSent();
            case 5: return now.tells(now.framesSent()) ? 1 : 0;
            default: throw new IllegalArgumentException("no such number of a frame");
        }
    }

    public int nextByte(int k) {
        coming.fillFrom(now);
        return coming.byteOnLine(k);
    }

    public int until(boolean reading, int what) throws IllegalArgumentException {
        if (what < 0 || what > 1) {
            throw new IllegalArgumentException("neither ticks nor frames");
        }
        return what == 0 ? forecast.ticks(now, reading) : forecast.frames(now, reading);
    }

    public int delay(int frame) throws IllegalArgumentException {
        checkFrame(frame);
        return forecast.delayBy(now, frame);
    }

    public int worstFrame() {
        return forecast.worstOf(now);
    }

    public int bestBurst() {
        return forecast.bestBurstOf(now);
    }

    public int account(int what) throws IllegalArgumentException {
        if (what < 0 || what >= now.accounts.length) {
            throw new IllegalArgumentException("no such account");
        }
        return now.accounts[what];
    }

    public double efficiency() {
        int bytes = now.accounts[Line.BYTES];
        if (bytes <= 0) {
            return 0.0;
        }
        int good = now.first.bytesOfFirst(now.second.accepted)
            + now.second.bytesOfFirst(now.first.accepted);
        return (double) good / bytes;
    }

    // ---- changes

    public int put(int station, int length, long bytes)
            throws IndexOutOfBoundsException, IllegalArgumentException, IllegalStateException {
        checkStation(station);
        if (length < 1 || length > MOST_BYTES) {
            throw new IllegalArgumentException("no such length of a message");
        }
        Station owner = now.side(station);
        if (owner.messages >= MOST_MESSAGES) {
            throw new IllegalStateException("the list of messages is full");
        }
        history.keep(now);
        owner.addMessage(length, bytes);
        return owner.messages - 1;
    }

    public int read(int station, int many)
            throws IndexOutOfBoundsException, IllegalArgumentException, IllegalStateException {
        checkStation(station);
        checkMany(many, MOST_MESSAGES);
        Station reading = now.side(station);
        if (many > reading.inBuffer()) {
            throw new IllegalStateException("not so many in the buffer");
        }
        history.keep(now);
        reading.hostRead += many;
        return reading.inBuffer();
    }

    public int askBack(int station, int many)
            throws IndexOutOfBoundsException, IllegalArgumentException, IllegalStateException {
        checkStation(station);
        checkMany(many, MOST_CAPACITY);
        Station asking = now.side(station);
        if (asking.capacity - asking.wanted - many < 1) {
            throw new IllegalStateException("no capacity would be left");
        }
        history.keep(now);
        asking.wanted += many;
        return asking.wanted;
    }

    public int grow(int station, int many)
            throws IndexOutOfBoundsException, IllegalArgumentException, IllegalStateException {
        checkStation(station);
        checkMany(many, MOST_CAPACITY);
        Station growing = now.side(station);
        if (growing.capacity + many > MOST_CAPACITY || growing.wanted > 0) {
            throw new IllegalStateException("it cannot have more capacity");
        }
        history.keep(now);
        growing.capacity += many;
        return growing.capacity;
    }

    public int lose(int frame) throws IllegalArgumentException, IllegalStateException {
        checkFrame(frame);
        if (frame < now.framesSent() || now.tells(frame) || now.toldCount >= MOST_TOLD) {
            throw new IllegalStateException("it cannot be told to be lost");
        }
        history.keep(now);
        now.tellLost(frame);
        return now.toldCount;
    }

    public int set(int burst, int silence) throws IllegalArgumentException {
        if (burst < 1 || burst > MOST_BURST || silence < 1 || silence > MOST_SILENCE) {
            throw new IllegalArgumentException("no such burst or silence");
        }
        history.keep(now);
        int previous = now.burst;
        now.burst = burst;
        now.silence = silence;
        return previous;
    }

    public int run(int steps) throws IllegalArgumentException, IllegalStateException {
        checkMany(steps, MOST_STEPS);
        if (now.framesSent() + steps > MOST_FRAMES) {
            throw new IllegalStateException("too many frames altogether");
        }
        history.keep(now);
        for (int n = 0; n < steps; n++) {
            now.step(coming);
        }
        return now.time();
    }

    // ---- undo and snapshots

    public int undo() {
        if (!history.takeBack(now)) {
            return NONE;
        }
        return history.count;
    }

    public boolean saveSnapshot(int slot) {
        Slot place = slotAt(slot);
        if (place == null) {
            return false;
        }
        place.held.copyFrom(now);
        place.isFull = true;
        return true;
    }

    public boolean restoreSnapshot(int slot) {
        Slot place = slotAt(slot);
        if (place == null || !place.isFull) {
            return false;
        }
        now.copyFrom(place.held);
        history.count = 0;
        return true;
    }

    private Slot slotAt(int slot) {
        if (slot == 0) {
            return firstSlot;
        }
        return slot == 1 ? secondSlot : null;
    }

    private static void checkStation(int station) {
        if (station < 0 || station > 1) {
            throw new IndexOutOfBoundsException("no such station");
        }
    }

    private static void checkMany(int many, int most) {
        if (many < 1 || many > most) {
            throw new IllegalArgumentException("no such number");
        }
    }

    private static void checkFrame(int frame) {
        if (frame < 0 || frame >= MOST_FRAMES) {
            throw new IllegalArgumentException("no such frame");
        }
    }

    /** One of the two stations, see STATIONS. */
    private static final class Station {
        private final int[] lengths;
        private final long[] contents;
        private int messages;
        private int accepted;
        private int hostRead;
        private int capacity;
        private int wanted;
        private int returned;
        /** What the other station has returned, as far as this one was told. */
        private int noted;
        private int knownAccepted;
        private int knownLimit;
        private int everSent;
        private int turnsPassed;

        Station() {
            lengths = new int[MOST_MESSAGES];
            contents = new long[MOST_MESSAGES];
            capacity = FIRST_CAPACITY;
            knownLimit = FIRST_CAPACITY;
        }

        void copyFrom(Station other) {
            System.arraycopy(other.lengths, 0, lengths, 0, MOST_MESSAGES);
            System.arraycopy(other.contents, 0, contents, 0, MOST_MESSAGES);
            messages = other.messages;
            accepted = other.accepted;
            hostRead = other.hostRead;
            capacity = other.capacity;
            wanted = other.wanted;
            returned = other.returned;
            noted = other.noted;
            knownAccepted = other.knownAccepted;
            knownLimit = other.knownLimit;
            everSent = other.everSent;
            turnsPassed = other.turnsPassed;
        }

        int numberOf(int what) {
            switch (what) {
                case 0: return messages;
                case 1: return accepted;
                case 2: return hostRead;
                case 3: return capacity;
                case 4: return wanted;
                case 5: return returned;
                case 6: return knownAccepted;
                case 7: return knownLimit;
                case 8: return everSent;
                case 9: return turnsPassed;
                default: return NONE;
            }
        }

        int ownLimit() {
            return hostRead + capacity;
        }

        int inBuffer() {
            return accepted - hostRead;
        }

        boolean hasMessage(int message) {
            return message >= 0 && message < messages && message < MOST_MESSAGES;
        }

        int lengthOf(int message) {
            return hasMessage(message) ? lengths[message] : 0;
        }

        int byteOf(int message, int k) {
            if (!hasMessage(message) || k < 0 || k >= lengths[message]) {
                return NONE;
            }
            return (int) (contents[message] >>> (8 * k)) & 255;
        }

        int bytesOfFirst(int many) {
            int sum = 0;
            for (int m = 0; m < many && m < MOST_MESSAGES; m++) {
                sum += lengthOf(m);
            }
            return sum;
        }

        void addMessage(int length, long bytes) {
            if (messages >= 0 && messages < MOST_MESSAGES) {
                lengths[messages] = length;
                contents[messages] = bytes;
                messages++;
            }
        }

        /** What a frame of the sender tells by its head, when it arrives here. */
        void noteHeadOf(Station sender) {
            knownAccepted = sender.accepted;
            knownLimit = sender.ownLimit();
            int more = sender.returned - noted;
            if (more > 0) {
                capacity -= more;
                wanted -= more;
                noted = sender.returned;
            }
        }

        /** A message that was sent may still arrive, so what was granted for it stays. */
        void returnCapacity(int asked) {
            int free = Math.max(0, knownLimit - everSent);
            int given = Math.min(asked, free);
            knownLimit -= given;
            returned += given;
        }
    }

    /** All that changes can change: both stations, the turn, the told frames and the accounts. */
    private static final class Line {
        /** The places of the accounts are the numbers by which the document asks for them. */
        private static final int FRAMES = 0;
        private static final int LOST = 1;
        private static final int DATA = 2;
        private static final int DATA_AGAIN = 3;
        private static final int TURNS = 4;
        private static final int TURNS_AGAIN = 5;
        private static final int BYTES = 6;
        private static final int ESCAPES = 7;
        private static final int SILENCE = 8;
        private static final int USELESS = 9;
        private static final int ACCOUNTS = 10;
        private static final int TOLD_WORDS = (MOST_FRAMES + 63) / 64;

        private final Station first;
        private final Station second;
        private final int[] accounts;
        /** A bit for each frame that is told to be lost. */
        private final long[] told;
        private int toldCount;
        private int burst;
        private int silence;
        private int talker;
        private int sentInTurn;
        /** The turn was sent in vain, so nothing but a turn may follow. */
        private boolean turnMissing;
        /** One more frame that is lost in a forecast, NONE without. */
        private int alsoLost;

        Line() {
            first = new Station();
            second = new Station();
            accounts = new int[ACCOUNTS];
            told = new long[TOLD_WORDS];
            burst = FIRST_BURST;
            silence = FIRST_SILENCE;
            alsoLost = NONE;
        }

        void copyFrom(Line other) {
            first.copyFrom(other.first);
            second.copyFrom(other.second);
            System.arraycopy(other.accounts, 0, accounts, 0, ACCOUNTS);
            System.arraycopy(other.told, 0, told, 0, TOLD_WORDS);
            toldCount = other.toldCount;
            burst = other.burst;
            silence = other.silence;
            talker = other.talker;
            sentInTurn = other.sentInTurn;
            turnMissing = other.turnMissing;
            alsoLost = other.alsoLost;
        }

        Station side(int station) {
            return station == 0 ? first : second;
        }

        int framesSent() {
            return accounts[FRAMES];
        }

        /** Nothing else takes time. */
        int time() {
            return accounts[BYTES] + accounts[SILENCE];
        }

        boolean tells(int frame) {
            if (frame < 0 || frame >= MOST_FRAMES) {
                return false;
            }
            return (told[frame / 64] >>> (frame % 64) & 1L) != 0;
        }

        void tellLost(int frame) {
            if (frame >= 0 && frame < MOST_FRAMES && !tells(frame)) {
                told[frame / 64] |= 1L << (frame % 64);
                toldCount++;
            }
        }

        boolean isAllAccepted() {
            return first.accepted >= second.messages && second.accepted >= first.messages;
        }

        void letHostsRead() {
            first.hostRead = first.accepted;
            second.hostRead = second.accepted;
        }

        /**
         * The message that is sent next, NONE if a turn is. No frame of the listener comes in a
         * turn, so the accepted that the talker knows stays.
         */
        int nextMessage(Station sender) {
            int message = sender.knownAccepted + sentInTurn;
            boolean isNext = !turnMissing && sentInTurn < burst
                && message < sender.knownLimit && sender.hasMessage(message);
            return isNext ? message : NONE;
        }

        /** The frame is only a place to write in, so that no step makes a new one. */
        void step(Frame frame) {
            frame.fillFrom(this);
            boolean lost = tells(framesSent()) || framesSent() == alsoLost;
            accounts[FRAMES]++;
            accounts[BYTES] += frame.bytesOnLine();
            accounts[ESCAPES] += frame.escapes;
            if (lost) {
                accounts[LOST]++;
            }
            if (frame.isData) {
                sendData(frame.number, lost);
            } else {
                sendTurn(lost);
            }
        }

        private void sendData(int message, boolean lost) {
            Station sender = side(talker);
            Station listener = side(1 - talker);
            accounts[DATA]++;
            sentInTurn++;
            if (message < sender.everSent) {
                accounts[DATA_AGAIN]++;
            } else {
                sender.everSent = message + 1;
            }
            if (lost) {
                return;
            }
            listener.noteHeadOf(sender);
            if (message == listener.accepted) {
                listener.accepted++;
            } else {
                accounts[USELESS]++;
            }
        }

        private void sendTurn(boolean lost) {
            Station sender = side(talker);
            Station listener = side(1 - talker);
            accounts[TURNS]++;
            if (turnMissing) {
                accounts[TURNS_AGAIN]++;
            }
            turnMissing = lost;
            if (lost) {
                accounts[SILENCE] += silence;
                return;
            }
            listener.noteHeadOf(sender);
            sender.turnsPassed++;
            talker = 1 - talker;
            sentInTurn = 0;
            listener.returnCapacity(sender.wanted);
        }
    }

    /** The frame that is next on a line, see FRAMES. */
    private static final class Frame {
        private static final int MARK = 126;
        private static final int ESCAPE = 125;
        private static final int FLIP = 32;
        private static final int HEAD_AND_SUM = 7;

        private final int[] plain;
        private int count;
        private int sum;
        private int escapes;
        private boolean isData;
        private int number;

        Frame() {
            plain = new int[HEAD_AND_SUM + MOST_BYTES];
        }

        void fillFrom(Line line) {
            Station sender = line.side(line.talker);
            int message = line.nextMessage(sender);
            isData = message != NONE;
            number = isData ? message : sender.turnsPassed;
            count = 0;
            sum = 0;
            escapes = 0;
            addPlain((isData ? 0 : 1) + 2 * line.talker);
            addPlain(number);
            addPlain(sender.accepted);
            addPlain(sender.ownLimit());
            addPlain(sender.wanted);
            addPlain(sender.returned);
            int length = isData ? sender.lengthOf(number) : 0;
            for (int k = 0; k < length; k++) {
                addPlain(sender.byteOf(number, k));
            }
            addPlain(sum);
        }

        private void addPlain(int whole) {
            if (count < 0 || count >= plain.length) {
                return;
            }
            int value = whole & 255;
            plain[count] = value;
            count++;
            sum += value;
            if (isEscaped(value)) {
                escapes++;
            }
        }

        private static boolean isEscaped(int value) {
            return value == ESCAPE || value == MARK;
        }

        int bytesOnLine() {
            return 2 + count + escapes;
        }

        int byteOnLine(int k) {
            if (k == 0) {
                return MARK;
            }
            int place = 1;
            for (int i = 0; i < count && i < plain.length; i++) {
                int value = plain[i];
                if (isEscaped(value)) {
                    if (k == place) {
                        return ESCAPE;
                    }
                    place++;
                    value ^= FLIP;
                }
                if (k == place) {
                    return value;
                }
                place++;
            }
            return k == place ? MARK : NONE;
        }
    }

    /** What could come, tried out on lines of its own. */
    private static final class Forecast {
        private final Line trial;
        private final Line walk;
        private final Frame frame;

        Forecast() {
            trial = new Line();
            walk = new Line();
            frame = new Frame();
        }

        int frames(Line from, boolean reading) {
            trial.copyFrom(from);
            return framesToEnd(reading, MOST_FORECAST);
        }

        int ticks(Line from, boolean reading) {
            trial.copyFrom(from);
            return ticksToEnd(reading);
        }

        int delayBy(Line from, int lost) {
            trial.copyFrom(from);
            int without = ticksToEnd(true);
            trial.copyFrom(from);
            trial.alsoLost = lost;
            int with = ticksToEnd(true);
            return without == NONE || with == NONE ? NO_DELAY : with - without;
        }

        int bestBurstOf(Line from) {
            int best = NONE;
            int least = NONE;
            for (int burst = 1; burst <= MOST_BURST; burst++) {
                trial.copyFrom(from);
                trial.burst = burst;
                int ticks = ticksToEnd(true);
                if (ticks != NONE && (best == NONE || ticks < least)) {
                    best = burst;
                    least = ticks;
                }
            }
            return best;
        }

        /** Each loss is tried from just before its frame on: what comes earlier is the same. */
        int worstOf(Line from) {
            int frames = frames(from, true);
            if (frames <= 0) {
                return NONE;
            }
            int end = trial.time();
            int worst = NONE;
            int greatest = 0;
            walk.copyFrom(from);
            for (int n = 0; n < frames && n < MOST_FORECAST; n++) {
                walk.letHostsRead();
                int lost = walk.framesSent();
                trial.copyFrom(walk);
                trial.alsoLost = lost;
                if (framesToEnd(true, MOST_FORECAST - n) != NONE) {
                    int delay = trial.time() - end;
                    if (worst == NONE || delay > greatest) {
                        worst = lost;
                        greatest = delay;
                    }
                }
                walk.step(frame);
            }
            return worst;
        }

        private int ticksToEnd(boolean reading) {
            int start = trial.time();
            return framesToEnd(reading, MOST_FORECAST) == NONE ? NONE : trial.time() - start;
        }

        /** Goes on with the trial; NONE if it would take more than so many frames. */
        private int framesToEnd(boolean reading, int most) {
            for (int n = 0; n <= most; n++) {
                if (trial.isAllAccepted()) {
                    return n;
                }
                if (reading) {
                    trial.letHostsRead();
                }
                trial.step(frame);
            }
            return NONE;
        }
    }

    /** The lines as they were before the latest changes, the latest last. */
    private static final class History {
        private final Line[] kept;
        private int count;

        History() {
            kept = new Line[MOST_UNDO];
            for (int i = 0; i < kept.length; i++) {
                kept[i] = new Line();
            }
        }

        void keep(Line line) {
            if (count >= kept.length) {
                forgetOldest();
            }
            Line place = lineAt(count);
            if (place != null) {
                place.copyFrom(line);
                count++;
            }
        }

        boolean takeBack(Line line) {
            Line latest = lineAt(count - 1);
            if (latest == null) {
                return false;
            }
            line.copyFrom(latest);
            count--;
            return true;
        }

        private Line lineAt(int i) {
            return i >= 0 && i < kept.length ? kept[i] : null;
        }

        /** Its line comes to the end, to be written in once more. */
        private void forgetOldest() {
            Line oldest = lineAt(0);
            for (int i = 1; i < kept.length; i++) {
                kept[i - 1] = kept[i];
            }
            count = kept.length - 1;
            if (count >= 0) {
                kept[count] = oldest;
            }
        }
    }

    private static final class Slot {
        private final Line held;
        private boolean isFull;

        Slot() {
            held = new Line();
        }
    }

    /** The input buffer and the parser of TEXT. */
    private static final class TextReader {
        private static final int MOST_TEXT = 700;
        private static final int APPENDED = 20;
        private static final int LONGEST_WORD = 8;
        private static final int LONGEST_NUMBER = 3;
        private static final int MOST_TEXT_TOLD = 20;
        private static final int LAST_TEXT_FRAME = 499;

        private static final int END = 0;
        private static final int WORD = 1;
        private static final int NUMBER = 2;
        private static final int SEMICOLON = 3;
        private static final int ILLEGAL = 4;

        private static final int SYNTAX = 1;
        private static final int REPEATED = 2;
        private static final int RANGE = 3;
        private static final int TOO_MANY = 4;

        private final byte[] buffer;
        private int filled;
        private int end;
        private int at;
        private int kind;
        private int start;
        private int value;
        /** Where the number that was taken last starts. */
        private int takenAt;
        /** 0, or 8 * offset + kind of the first error; behind it nothing is taken any more. */
        private int fault;
        private boolean firstHasWindow;
        private boolean secondHasWindow;

        TextReader() {
            buffer = new byte[MOST_TEXT];
        }

        boolean hasRoom() {
            return filled + APPENDED <= MOST_TEXT;
        }

        void addFour(int four) {
            for (int shift = 24; shift >= 0; shift -= 8) {
                if (filled >= 0 && filled < MOST_TEXT) {
                    buffer[filled] = (byte) (four >>> shift);
                    filled++;
                }
            }
        }

        /** Writes the line of the text's first bytes into a new draft; returns the fault. */
        int readText(int length, Line draft) {
            end = length;
            at = 0;
            fault = 0;
            firstHasWindow = false;
            secondHasWindow = false;
            advance();
            takeWord("line");
            draft.burst = takeNumber(1, MOST_BURST);
            draft.silence = takeNumber(1, MOST_SILENCE);
            takeSemicolon();
            for (int n = 0; n < MOST_TEXT && fault == 0 && kind != END; n++) {
                readStatement(draft);
                takeSemicolon();
            }
            draft.first.knownLimit = draft.second.capacity;
            draft.second.knownLimit = draft.first.capacity;
            return fault;
        }

        private void readStatement(Line draft) {
            if (isWord("window")) {
                advance();
                readWindow(draft);
            } else if (isWord("message")) {
                advance();
                readMessage(draft);
            } else if (isWord("lose")) {
                if (draft.toldCount >= MOST_TEXT_TOLD) {
                    failAt(start, TOO_MANY);
                }
                advance();
                readLose(draft);
            } else {
                failAt(start, SYNTAX);
            }
        }

        private void readWindow(Line draft) {
            int station = takeNumber(0, 1);
            if (station == 0 ? firstHasWindow : secondHasWindow) {
                failAt(takenAt, REPEATED);
            }
            if (station == 0) {
                firstHasWindow = true;
            } else {
                secondHasWindow = true;
            }
            draft.side(station).capacity = takeNumber(1, MOST_CAPACITY);
        }

        private void readMessage(Line draft) {
            Station owner = draft.side(takeNumber(0, 1));
            if (owner.messages >= MOST_MESSAGES) {
                failAt(takenAt, TOO_MANY);
            }
            long bytes = takeNumber(0, 255);
            int length = 1;
            while (length < MOST_BYTES && fault == 0 && kind == NUMBER) {
                bytes |= (long) takeNumber(0, 255) << (8 * length);
                length++;
            }
            if (fault == 0 && kind == NUMBER) {
                takeNumber(0, 255);
                failAt(takenAt, TOO_MANY);
            }
            if (fault == 0) {
                owner.addMessage(length, bytes);
            }
        }

        private void readLose(Line draft) {
            int frame = takeNumber(0, LAST_TEXT_FRAME);
            if (draft.tells(frame)) {
                failAt(takenAt, REPEATED);
            }
            draft.tellLost(frame);
        }

        private void failAt(int offset, int errorKind) {
            if (fault == 0) {
                fault = 8 * offset + errorKind;
            }
        }

        private void takeWord(String word) {
            if (isWord(word)) {
                advance();
            } else {
                failAt(start, SYNTAX);
            }
        }

        private void takeSemicolon() {
            if (fault == 0 && kind == SEMICOLON) {
                advance();
            } else {
                failAt(start, SYNTAX);
            }
        }

        /** The least number stands for one that cannot be taken: then there is a fault. */
        private int takeNumber(int least, int most) {
            if (fault != 0) {
                return least;
            }
            if (kind != NUMBER) {
                failAt(start, SYNTAX);
                return least;
            }
            if (value < least || value > most) {
                failAt(start, RANGE);
                return least;
            }
            int taken = value;
            takenAt = start;
            advance();
            return taken;
        }

        private boolean isWord(String word) {
            if (kind != WORD || at - start != word.length()) {
                return false;
            }
            for (int i = 0; i < word.length(); i++) {
                if (byteAt(start + i) != word.charAt(i)) {
                    return false;
                }
            }
            return true;
        }

        /** Goes on to the next token, from start to at. */
        private void advance() {
            while (at < end && isSpace(byteAt(at))) {
                at++;
            }
            start = at;
            int sign = byteAt(at);
            if (at >= end) {
                kind = END;
            } else if (sign == ';') {
                kind = SEMICOLON;
                at++;
            } else if (isLetter(sign)) {
                passLetters();
            } else if (isDigit(sign)) {
                passDigits();
            } else {
                kind = ILLEGAL;
            }
        }

        private void passLetters() {
            while (at < end && isLetter(byteAt(at))) {
                at++;
            }
            kind = at - start <= LONGEST_WORD ? WORD : ILLEGAL;
        }

        private void passDigits() {
            value = 0;
            while (at < end && isDigit(byteAt(at))) {
                value = 10 * value + byteAt(at) - '0';
                at++;
            }
            kind = at - start <= LONGEST_NUMBER ? NUMBER : ILLEGAL;
        }

        private int byteAt(int i) {
            return i >= 0 && i < end && i < MOST_TEXT ? buffer[i] : NONE;
        }

        private static boolean isSpace(int sign) {
            return sign == 32 || sign == 10;
        }

        private static boolean isLetter(int sign) {
            return sign >= 'a' && sign <= 'z';
        }

        private static boolean isDigit(int sign) {
            return sign >= '0' && sign <= '9';
        }
    }
}
