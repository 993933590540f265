import java.util.ArrayDeque;
import java.util.ArrayList;
import java.util.Deque;
import java.util.List;
import java.util.TreeSet;
import java.util.regex.Matcher;
import java.util.regex.Pattern;

/**
 * The document once more, written in another way: frames are really packed into bytes, sent, and
 * unpacked by the listener, and every forecast is run on a copy from its beginning. Slow.
 */
final class PlainLine {
    static final int NONE = -1;

    static final class Side {
        List<int[]> messages = new ArrayList<>();
        int accepted, read, capacity = 4, wanted, returned, noted, knownAccepted, knownLimit = 4;
        int everSent, passed;

        Side copy() {
            Side c = new Side();
            c.messages = new ArrayList<>(messages);
            c.accepted = accepted;
            c.read = read;
            c.capacity = capacity;
            c.wanted = wanted;
            c.returned = returned;
            c.noted = noted;
            c.knownAccepted = knownAccepted;
            c.knownLimit = knownLimit;
            c.everSent = everSent;
            c.passed = passed;
            return c;
        }
    }

    static final class State {
        Side[] sides = {new Side(), new Side()};
        TreeSet<Integer> told = new TreeSet<>();
        int burst = 3, silence = 20, talker, inTurn, time;
        boolean again;
        int[] accounts = new int[10];

        State copy() {
            State c = new State();
            c.sides = new Side[] {sides[0].copy(), sides[1].copy()};
            c.told = new TreeSet<>(told);
            c.burst = burst;
            c.silence = silence;
            c.talker = talker;
            c.inTurn = inTurn;
            c.time = time;
            c.again = again;
            c.accounts = accounts.clone();
            return c;
        }

        boolean isDone() {
            return sides[0].accepted == sides[1].messages.size()
                && sides[1].accepted == sides[0].messages.size();
        }

        int nextMessage() {
            Side me = sides[talker];
            int m = me.knownAccepted + inTurn;
            boolean may = !again && m < me.messages.size() && m < me.knownLimit && inTurn < burst;
            return may ? m : NONE;
        }

        List<Integer> nextPlain() {
            Side me = sides[talker];
            int m = nextMessage();
            List<Integer> bytes = new ArrayList<>();
            bytes.add((m == NONE ? 1 : 0) + 2 * talker);
            bytes.add((m == NONE ? me.passed : m) % 256);
            bytes.add(me.accepted % 256);
            bytes.add((me.read + me.capacity) % 256);
            bytes.add(me.wanted);
            bytes.add(me.returned % 256);
            if (m != NONE) {
                for (int b : me.messages.get(m)) {
                    bytes.add(b);
                }
            }
            bytes.add(bytes.stream().mapToInt(Integer::intValue).sum() % 256);
            return bytes;
        }

        List<Integer> nextWire() {
            List<Integer> wire = new ArrayList<>(List.of(126));
            for (int b : nextPlain()) {
                if (b == 125 || b == 126) {
                    wire.add(125);
                    wire.add(b ^ 32);
                } else {
                    wire.add(b);
                }
            }
            wire.add(126);
            return wire;
        }

        void step() {
            List<Integer> wire = nextWire();
            int m = nextMessage();
            boolean lost = told.contains(accounts[0]);
            Side me = sides[talker];
            accounts[0]++;
            accounts[1] += lost ? 1 : 0;
            accounts[6] += wire.size();
            accounts[7] += (int) wire.stream().filter(b -> b == 125).count();
            time += wire.size();
            if (m != NONE) {
                accounts[2]++;
                accounts[3] += m < me.everSent ? 1 : 0;
                me.everSent = Math.max(me.everSent, m + 1);
                inTurn++;
            } else {
                accounts[4]++;
                accounts[5] += again ? 1 : 0;
            }
            if (!lost) {
                arrive(wire);
            } else if (m == NONE) {
                again = true;
                time += silence;
                accounts[8] += silence;
            }
        }

        void arrive(List<Integer> wire) {
            List<Integer> plain = new ArrayList<>();
            for (int i = 1; i < wire.size() - 1; i++) {
                plain.add(wire.get(i) == 125 ? wire.get(++i) ^ 32 : wire.get(i));
            }
            Side you = sides[1 - plain.get(0) / 2];
            you.knownAccepted = plain.get(2);
            you.knownLimit = plain.get(3);
            int more = (plain.get(5) - you.noted) & 255;
            you.capacity -= more;
            you.wanted -= more;
            you.noted += more;
            if (plain.get(0) % 2 == 0) {
                if (plain.get(1) == you.accepted) {
                    you.accepted++;
                } else {
                    accounts[9]++;
                }
                return;
            }
            sides[talker].passed++;
            talker = 1 - talker;
            inTurn = 0;
            again = false;
            int back = Math.min(plain.get(4), you.knownLimit - you.everSent);
            you.knownLimit -= back;
            you.returned += back;
        }
    }

    private static final class Fault extends RuntimeException {
        private static final long serialVersionUID = 1L;
        final int code;

        Fault(int offset, int kind) {
            code = 8 * offset + kind;
        }
    }

    private record Token(int start, String text) {
        int number(int least, int most) {
            if (!text.matches("[0-9]{1,3}")) {
                throw new Fault(start, 1);
            }
            int n = Integer.parseInt(text);
            if (n < least || n > most) {
                throw new Fault(start, 3);
            }
            return n;
        }

        void only(String wanted) {
            if (!text.equals(wanted)) {
                throw new Fault(start, 1);
            }
        }
    }

    State state = new State();
    private final StringBuilder buffer = new StringBuilder();
    private final Deque<State> past = new ArrayDeque<>();
    private final State[] slots = new State[2];

    int append(byte[] twenty) {
        if (buffer.length() + 20 > 700) {
            return NONE;
        }
        for (byte b : twenty) {
            buffer.append((char) (b & 255));
        }
        return buffer.length();
    }

    int parse(int length) {
        require(length >= 0 && length <= buffer.length());
        String text = buffer.substring(0, length);
        buffer.setLength(0);
        try {
            state = parsed(text);
        } catch (Fault fault) {
            return -2 - fault.code;
        }
        past.clear();
        slots[0] = null;
        slots[1] = null;
        return state.sides[0].messages.size() + state.sides[1].messages.size();
    }

    private static Deque<Token> tokensOf(String text) {
        Deque<Token> tokens = new ArrayDeque<>();
        Matcher m = Pattern.compile("[a-z]+|[0-9]+|[^ \n]", Pattern.DOTALL).matcher(text);
        while (m.find()) {
            tokens.add(new Token(m.start(), m.group()));
        }
        // an end that is no token: nothing equals or matches it
        tokens.add(new Token(text.length(), ""));
        return tokens;
    }

    private static State parsed(String text) {
        Deque<Token> tokens = tokensOf(text);
        State made = new State();
        tokens.pop().only("line");
        made.burst = tokens.pop().number(1, 7);
        made.silence = tokens.pop().number(1, 99);
        tokens.pop().only(";");
        boolean[] windows = new boolean[2];
        while (tokens.size() > 1) {
            statement(made, windows, tokens);
            tokens.pop().only(";");
        }
        made.sides[0].knownLimit = made.sides[1].capacity;
        made.sides[1].knownLimit = made.sides[0].capacity;
        return made;
    }

    private static void statement(State made, boolean[] windows, Deque<Token> tokens) {
        Token word = tokens.pop();
        switch (word.text()) {
            case "window" -> {
                Token t = tokens.pop();
                int station = t.number(0, 1);
                if (windows[station]) {
                    throw new Fault(t.start(), 2);
                }
                windows[station] = true;
                made.sides[station].capacity = tokens.pop().number(1, 9);
            }
            case "message" -> {
                Token t = tokens.pop();
                int station = t.number(0, 1);
                if (made.sides[station].messages.size() == 20) {
                    throw new Fault(t.start(), 4);
                }
                List<Integer> bytes = new ArrayList<>();
                do {
                    Token b = tokens.pop();
                    bytes.add(b.number(0, 255));
                    if (bytes.size() == 9) {
                        throw new Fault(b.start(), 4);
                    }
                } while (tokens.peek().text().matches("[0-9]{1,3}"));
                made.sides[station].messages.add(
                    bytes.stream().mapToInt(Integer::intValue).toArray());
            }
            case "lose" -> {
                if (made.told.size() == 20) {
                    throw new Fault(word.start(), 4);
                }
                Token t = tokens.pop();
                if (!made.told.add(t.number(0, 499))) {
                    throw new Fault(t.start(), 2);
                }
            }
            default -> throw new Fault(word.start(), 1);
        }
    }

    private static void require(boolean holds) {
        if (!holds) {
            throw new IllegalArgumentException();
        }
    }

    private static void requireState(boolean holds) {
        if (!holds) {
            throw new IllegalStateException();
        }
    }

    private Side side(int station) {
        if (station != 0 && station != 1) {
            throw new IndexOutOfBoundsException();
        }
        return state.sides[station];
    }

    int size(int what) {
        require(what >= 0 && what <= 6);
        return new int[] {state.burst, state.silence, state.time, state.talker, state.inTurn,
            state.told.size(), past.size()}[what];
    }

    int station(int station, int what) {
        Side s = side(station);
        require(what >= 0 && what <= 9);
        return new int[] {s.messages.size(), s.accepted, s.read, s.capacity, s.wanted, s.returned,
            s.knownAccepted, s.knownLimit, s.everSent, s.passed}[what];
    }

    int messageByte(int station, int message, int k) {
        Side s = side(station);
        if (message < 0 || message >= s.messages.size()) {
            throw new IndexOutOfBoundsException();
        }
        int[] bytes = s.messages.get(message);
        return k < 0 || k >= bytes.length ? NONE : bytes[k];
    }

    boolean isTold(int frame) {
        return state.told.contains(frame);
    }

    int next(int what) {
        require(what >= 0 && what <= 5);
        int m = state.nextMessage();
        return switch (what) {
            case 0 -> m == NONE ? 1 : 0;
            case 1 -> state.talker;
            case 2 -> m == NONE ? state.sides[state.talker].passed : m;
            case 3 -> state.nextWire().size();
            case 4 -> state.accounts[0];
            default -> isTold(state.accounts[0]) ? 1 : 0;
        };
    }

    int nextByte(int k) {
        List<Integer> wire = state.nextWire();
        return k < 0 || k >= wire.size() ? NONE : wire.get(k);
    }

    private static int until(State from, boolean reading, int what) {
        State s = from.copy();
        for (int frames = 0; frames <= 600; frames++) {
            if (s.isDone()) {
                return what == 0 ? s.time - from.time : frames;
            }
            for (Side side : s.sides) {
                side.read = reading ? side.accepted : side.read;
            }
            s.step();
        }
        return NONE;
    }

    int until(boolean reading, int what) {
        require(what == 0 || what == 1);
        return until(state, reading, what);
    }

    private int delayOf(int frame) {
        State s = state.copy();
        if (frame >= s.accounts[0]) {
            s.told.add(frame);
        }
        int without = until(state, true, 0);
        int with = until(s, true, 0);
        return without == NONE || with == NONE ? NONE - 10000 : with - without;
    }

    int delay(int frame) {
        require(frame >= 0 && frame <= 1999);
        return delayOf(frame);
    }

    int worstFrame() {
        int frames = until(state, true, 1);
        int worst = NONE;
        int most = NONE - 10000;
        for (int f = state.accounts[0]; f < state.accounts[0] + frames; f++) {
            int delay = delayOf(f);
            if (delay > most) {
                most = delay;
                worst = f;
            }
        }
        return worst;
    }

    int bestBurst() {
        int best = NONE;
        int least = Integer.MAX_VALUE;
        for (int burst = 1; burst <= 7; burst++) {
            State s = state.copy();
            s.burst = burst;
            int ticks = until(s, true, 0);
            if (ticks != NONE && ticks < least) {
                least = ticks;
                best = burst;
            }
        }
        return best;
    }

    int account(int what) {
        require(what >= 0 && what <= 9);
        return state.accounts[what];
    }

    double efficiency() {
        int good = 0;
        for (int s = 0; s < 2; s++) {
            for (int[] message : state.sides[s].messages.subList(0, state.sides[1 - s].accepted)) {
                good += message.length;
            }
        }
        return state.accounts[6] == 0 ? 0.0 : (double) good / state.accounts[6];
    }

    private void keep() {
        past.addLast(state.copy());
        if (past.size() > 10) {
            past.removeFirst();
        }
    }

    int put(int station, int length, long bytes) {
        Side s = side(station);
        require(length >= 1 && length <= 8);
        requireState(s.messages.size() < 20);
        keep();
        int[] message = new int[length];
        long rest = bytes;
        for (int k = 0; k < length; k++) {
            message[k] = (int) Math.floorMod(rest, 256L);
            rest = Math.floorDiv(rest, 256L);
        }
        s.messages.add(message);
        return s.messages.size() - 1;
    }

    int read(int station, int many) {
        Side s = side(station);
        require(many >= 1 && many <= 20);
        requireState(many <= s.accepted - s.read);
        keep();
        s.read += many;
        return s.accepted - s.read;
    }

    int askBack(int station, int many) {
        Side s = side(station);
        require(many >= 1 && many <= 9);
        requireState(s.capacity - (s.wanted + many) >= 1);
        keep();
        s.wanted += many;
        return s.wanted;
    }

    int grow(int station, int many) {
        Side s = side(station);
        require(many >= 1 && many <= 9);
        requireState(s.capacity + many <= 9 && s.wanted == 0);
        keep();
        s.capacity += many;
        return s.capacity;
    }

    int lose(int frame) {
        require(frame >= 0 && frame <= 1999);
        requireState(frame >= state.accounts[0] && !isTold(frame) && state.told.size() < 40);
        keep();
        state.told.add(frame);
        return state.told.size();
    }

    int set(int burst, int silence) {
        require(burst >= 1 && burst <= 7 && silence >= 1 && silence <= 99);
        keep();
        int before = state.burst;
        state.burst = burst;
        state.silence = silence;
        return before;
    }

    int run(int steps) {
        require(steps >= 1 && steps <= 100);
        requireState(state.accounts[0] + steps <= 2000);
        keep();
        for (int n = 0; n < steps; n++) {
            state.step();
        }
        return state.time;
    }

    int undo() {
        if (past.isEmpty()) {
            return NONE;
        }
        state = past.removeLast();
        return past.size();
    }

    boolean saveSnapshot(int slot) {
        if (slot != 0 && slot != 1) {
            return false;
        }
        slots[slot] = state.copy();
        return true;
    }

    boolean restoreSnapshot(int slot) {
        if (slot != 0 && slot != 1 || slots[slot] == null) {
            return false;
        }
        state = slots[slot].copy();
        past.clear();
        return true;
    }
}
