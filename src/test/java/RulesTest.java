import com.sun.management.ThreadMXBean;
import java.io.IOException;
import java.lang.management.ManagementFactory;
import java.lang.reflect.Constructor;
import java.lang.reflect.Field;
import java.lang.reflect.Method;
import java.lang.reflect.Modifier;
import java.nio.file.Files;
import java.nio.file.Path;
import java.util.ArrayList;
import java.util.List;
import java.util.Set;
import java.util.TreeSet;
import java.util.regex.Pattern;

/** The face of the class, and what of LANGUAGE.md a program can see. */
public final class RulesTest {
    private static final Path SOURCE = Path.of("src/main/java/TurnLine.java");
    /** In the order of the document, without the constant and the constructor. */
    private static final String FACE = """
        int append(int int int int int)
        int parse(int) IllegalArgumentException
        int size(int) IllegalArgumentException
        int station(int int) IndexOutOfBoundsException IllegalArgumentException
        int messageByte(int int int) IndexOutOfBoundsException
        boolean isTold(int)
        int next(int) IllegalArgumentException
        int nextByte(int)
        int until(boolean int) IllegalArgumentException
        int delay(int) IllegalArgumentException
        int worstFrame()
        int bestBurst()
        int account(int) IllegalArgumentException
        double efficiency()
        int put(int int long) IndexOutOfBoundsException IllegalArgumentException IllegalStateException
        int read(int int) IndexOutOfBoundsException IllegalArgumentException IllegalStateException
        int askBack(int int) IndexOutOfBoundsException IllegalArgumentException IllegalStateException
        int grow(int int) IndexOutOfBoundsException IllegalArgumentException IllegalStateException
        int lose(int) IllegalArgumentException IllegalStateException
        int set(int int) IllegalArgumentException
        int run(int) IllegalArgumentException IllegalStateException
        int undo()
        boolean saveSnapshot(int)
        boolean restoreSnapshot(int)
        """;

    private static final int ROUNDS = 12;

    private RulesTest() {
    }

    public static void main(String[] args) throws IOException {
        face();
        members();
        source();
        CallDepths.check(SOURCE);
        room();
        Check.end("RulesTest");
    }

    private static void face() {
        Set<String> methods = new TreeSet<>();
        for (Method m : TurnLine.class.getDeclaredMethods()) {
            if (Modifier.isPublic(m.getModifiers())) {
                methods.add(signature(m));
            }
        }
        Check.due("public methods", new TreeSet<>(FACE.lines().toList()), methods);
        Constructor<?>[] constructors = TurnLine.class.getDeclaredConstructors();
        Check.due("constructors", 1, constructors.length);
        Check.due("its parameters", 0, constructors[0].getParameterCount());
        Check.due("it is public", true, Modifier.isPublic(constructors[0].getModifiers()));
        Check.due("the class", Modifier.PUBLIC | Modifier.FINAL, TurnLine.class.getModifiers());
        Check.due("its package", "", TurnLine.class.getPackageName());
    }

    private static String signature(Method m) {
        List<String> parameters = new ArrayList<>();
        for (Class<?> type : m.getParameterTypes()) {
            parameters.add(type.getName());
        }
        StringBuilder text = new StringBuilder(m.getReturnType().getName());
        text.append(' ').append(m.getName());
        text.append('(').append(String.join(" ", parameters)).append(')');
        for (Class<?> thrown : m.getExceptionTypes()) {
            text.append(' ').append(thrown.getSimpleName());
        }
        return text.toString();
    }

    private static void members() {
        Set<String> publicNames = new TreeSet<>();
        for (Method m : TurnLine.class.getDeclaredMethods()) {
            if (Modifier.isPublic(m.getModifiers())) {
                publicNames.add(m.getName());
            } else {
                Check.due(m + " is private", true, Modifier.isPrivate(m.getModifiers()));
            }
        }
        List<Class<?>> all = new ArrayList<>(List.of(TurnLine.class));
        all.addAll(List.of(TurnLine.class.getDeclaredClasses()));
        Check.due("at most twelve classes", true, all.size() <= 12);
        for (Class<?> one : all) {
            checkFields(one);
            for (Method m : one.getDeclaredMethods()) {
                Check.due(m + " has at most seven parameters", true, m.getParameterCount() <= 7);
                boolean isFace = one == TurnLine.class && Modifier.isPublic(m.getModifiers());
                Check.due(m + " bears a name of its own", true,
                    isFace || !publicNames.contains(m.getName()));
            }
        }
    }

    private static void checkFields(Class<?> one) {
        int fields = 0;
        for (Field f : one.getDeclaredFields()) {
            int marks = f.getModifiers();
            if (Modifier.isStatic(marks)) {
                Check.due(f + " is a constant", true, Modifier.isFinal(marks)
                    && (f.getType() == int.class || f.getType() == long.class));
            } else {
                fields++;
            }
            boolean isNone = one == TurnLine.class && f.getName().equals("NONE");
            Check.due(f + " is private or NONE", true, isNone ? Modifier.isPublic(marks)
                : Modifier.isPrivate(marks));
        }
        Check.due(one + " has at most twenty fields", true, fields <= 20);
    }

    /** Words that stand nowhere in the source, outside its comments and texts. */
    private static void source() throws IOException {
        String code = Files.readString(SOURCE).replaceAll("(?s)/\\*.*?\\*/", " ")
            .replaceAll("//[^\n]*", " ").replaceAll("\"[^\"\n]*\"", "\"\"");
        String[] forbidden = {"\\bpackage\\b", "\\bfinally\\b", "\\bsynchronized\\b",
            "\\bassert\\b", "\\)\\s*->", "::", "Exact\\b", "\\bprotected\\b", "\\bstatic \\{",
            "\\bSystem\\.(?!arraycopy)", "\"\"\\s*\\+", "\\+\\s*\"\""};
        for (String sign : forbidden) {
            Check.due("the source has " + sign, false, Pattern.compile(sign).matcher(code).find());
        }
        Check.due("signs are ASCII", true,
            Files.readString(SOURCE).chars().allMatch(c -> c == 10 || c >= 32 && c < 127));
        int length = 0;
        for (String row : Files.readString(SOURCE).lines().toList()) {
            length = row.equals("    }") || row.equals("        }") || row.isBlank() ? 0 : length + 1;
            Check.due("a method ends before it is too long: " + row, true, length <= 60);
        }
    }

    /**
     * An object with all its calls stays far below the 7.3 million fields and elements that a
     * run's room has: each of them takes a byte or more.
     */
    private static void room() {
        ThreadMXBean thread = (ThreadMXBean) ManagementFactory.getThreadMXBean();
        long before = thread.getThreadAllocatedBytes(Thread.currentThread().getId());
        TurnLine line = new TurnLine();
        long answers = 0;
        for (int n = 0; n < ROUNDS; n++) {
            answers += allCalls(line);
        }
        long made = thread.getThreadAllocatedBytes(Thread.currentThread().getId()) - before;
        Check.due("an object and its calls take " + made + " bytes", true, made < 1_000_000);
        Check.due("the calls were not left out", true, answers != 0);
    }

    /** Some forty calls: with ROUNDS of them an object is nearly used up. */
    private static long allCalls(TurnLine line) {
        // "line 1 1;message 0 1" ";"
        long sum = line.append(0x6c696e65, 0x20312031, 0x3b6d6573, 0x73616765, 0x20302031);
        sum += line.append(0x3b202020, 0x20202020, 0x20202020, 0x20202020, 0x20202020);
        sum += line.parse(40) + line.size(2) + line.station(0, 3) + line.messageByte(0, 0, 0);
        sum += line.put(1, 3, 5L) + line.lose(2) + line.set(2, 3);
        sum += line.next(3) + line.nextByte(4) + line.until(true, 0) + line.until(false, 1);
        sum += line.delay(1) + line.worstFrame() + line.bestBurst() + line.account(3);
        sum += line.saveSnapshot(1) ? 1 : 0;
        sum += line.run(10) + line.read(1, 1) + line.askBack(0, 2) + line.grow(1, 1);
        sum += line.isTold(3) || line.efficiency() > 0.5 ? 1 : 0;
        for (int n = 0; n < 12; n++) {
            sum += line.run(1);
        }
        sum += line.undo() + (line.restoreSnapshot(1) ? 1 : 0);
        return sum;
    }
}
