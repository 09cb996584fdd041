import java.io.IOException;
import java.lang.management.ManagementFactory;
import java.lang.reflect.Field;
import java.lang.reflect.Member;
import java.lang.reflect.Method;
import java.lang.reflect.Modifier;
import java.nio.file.Files;
import java.nio.file.Path;
import java.util.ArrayList;
import java.util.List;
import java.util.Set;
import java.util.TreeSet;

/** The rules of LANGUAGE.md that can be seen from the program's text, its face or what it makes. */
public final class LanguageTest {
    private static final Path SOURCE = Path.of("src/main/java/Ironwood.java");
    private static final String[] FACE = {
        "awaited(int) int", "branch(boolean,int) int", "call(int,int,int,int) int",
        "canBe(int,int,int) int", "canHold(int,int,int) boolean", "codeOf(int) int",
        "copied(int) int", "culprit() int", "density() double", "digest() long", "drop(int) int",
        "faults() int", "faultsAt(int) int", "faultsOf(int) int", "finish(int) int",
        "holds(int,int) int", "isLive(int,int) boolean", "isReached(int) boolean",
        "lend(int,int,int) int", "loans() int", "move(int,int,int) int", "ofFault(int,int) int",
        "read(int,int) int", "region(int) int", "relend(int,int) int", "setTarget(int,int) int",
        "statements() int", "undo() int", "variable(int,boolean) int", "variables() int",
        "without(int) int", "write(int,int) int",
    };
    private static final String[] UNWANTED = {
        "import ", "package ", "->", "::", "catch", "finally", "synchronized", "assert ", "System.",
        "Exact(", "\" +", "+ \"", "native ", "volatile ",
    };

    private LanguageTest() {
    }

    public static void main(String[] args) throws IOException {
        face();
        classes();
        text();
        room();
        Expect.end("LanguageTest");
    }

    private static void face() {
        Set<String> got = new TreeSet<>();
        for (Method method : Ironwood.class.getDeclaredMethods()) {
            if (!Modifier.isPrivate(method.getModifiers())) {
                Expect.yes(method + " is public", Modifier.isPublic(method.getModifiers()));
                Expect.no(method + " is static", Modifier.isStatic(method.getModifiers()));
                got.add(told(method));
            }
        }
        Set<String> due = new TreeSet<>(List.of(FACE));
        Expect.yes("the face is " + got + ", due is " + due, got.equals(due));
        Expect.yes("Ironwood is final", Modifier.isFinal(Ironwood.class.getModifiers()));
        Expect.same("constructors", Ironwood.class.getDeclaredConstructors().length, 1);
        Expect.same("public constructors", Ironwood.class.getConstructors().length, 1);
        for (Field field : Ironwood.class.getDeclaredFields()) {
            Expect.yes(field + " is private", Modifier.isPrivate(field.getModifiers()));
        }
    }

    private static String told(Method method) {
        StringBuilder text = new StringBuilder(method.getName()).append('(');
        for (Class<?> parameter : method.getParameterTypes()) {
            text.append(text.charAt(text.length() - 1) == '(' ? "" : ",").append(parameter.getName());
        }
        return text.append(") ").append(method.getReturnType().getName()).toString();
    }

    private static void classes() {
        Set<String> names = new TreeSet<>();
        for (Method method : Ironwood.class.getMethods()) {
            names.add(method.getName());
        }
        List<Class<?>> all = new ArrayList<>(List.of(Ironwood.class.getDeclaredClasses()));
        Expect.yes("there are at most twelve classes", all.size() < 12);
        for (Class<?> inner : all) {
            Expect.yes(inner + " is private", Modifier.isPrivate(inner.getModifiers()));
            Expect.yes(inner + " is static", Modifier.isStatic(inner.getModifiers()));
        }
        all.add(Ironwood.class);
        for (Class<?> each : all) {
            int fields = 0;
            for (Field field : each.getDeclaredFields()) {
                boolean isStatic = Modifier.isStatic(field.getModifiers());
                Expect.yes(field + " is final or not static", !isStatic || isFinal(field));
                fields += isStatic ? 0 : 1;
            }
            Expect.yes(each + " has at most twenty fields", fields <= 20);
            for (Method method : each.getDeclaredMethods()) {
                boolean isPrivate = Modifier.isPrivate(method.getModifiers());
                Expect.no(method + " bears a public name", isPrivate && names.contains(method.getName()));
                Expect.yes(method + " takes at most seven", method.getParameterCount() <= 7);
            }
        }
    }

    private static boolean isFinal(Member member) {
        return Modifier.isFinal(member.getModifiers());
    }

    private static void text() throws IOException {
        int length = 0;
        for (String line : Files.readAllLines(SOURCE)) {
            boolean isComment = line.strip().startsWith("/**") || line.strip().startsWith("//");
            for (String unwanted : UNWANTED) {
                Expect.no("the text has '" + unwanted + "': " + line, !isComment && line.contains(unwanted));
            }
            boolean isOpening = line.endsWith("{") && !line.contains(" class ");
            boolean isAtHead = line.matches("( {4}| {8})(\\S.*)") && !line.strip().startsWith("}");
            length = isOpening && isAtHead ? 1 : length + 1;
            Expect.yes("a method stays short: " + line, length <= 60 || !line.matches("( {4}| {8})}"));
        }
    }

    /** What is made, is made with the object: the calls that look at most of it make nothing. */
    private static void room() {
        Ironwood[] all = new Ironwood[4];
        for (int k = 0; k < all.length; k++) {
            all[k] = busy();
        }
        long before = made();
        for (Ironwood x : all) {
            for (int k = 0; k < 150; k++) {
                x.setTarget(39, k % 41);
                x.culprit();
                x.digest();
            }
        }
        long bytes = made() - before;
        Expect.yes("calls make nothing, but made " + bytes + " bytes", bytes < 15_000);
    }

    private static Ironwood busy() {
        Ironwood x = new Ironwood();
        for (int v = 0; v < 12; v++) {
            x.variable(v % 4, v % 3 == 0);
        }
        for (int s = 0; s < 39; s++) {
            x.call(s % 12, (s + 1) % 12, (s + 6) % 12, s % 4);
        }
        x.branch(false, 0);
        return x;
    }

    private static long made() {
        return ManagementFactory.getThreadMXBean() instanceof com.sun.management.ThreadMXBean bean
                ? bean.getThreadAllocatedBytes(Thread.currentThread().getId()) : 0;
    }
}
