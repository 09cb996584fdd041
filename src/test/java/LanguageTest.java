import com.sun.source.tree.ClassTree;
import com.sun.source.tree.Tree;
import java.io.IOException;
import java.lang.management.ManagementFactory;
import java.nio.file.Files;
import java.nio.file.Path;
import java.util.ArrayList;
import java.util.List;
import java.util.Set;
import java.util.TreeSet;
import java.util.stream.Collectors;
import javax.lang.model.element.Element;
import javax.lang.model.element.ElementKind;
import javax.lang.model.element.ExecutableElement;
import javax.lang.model.element.Modifier;
import javax.lang.model.element.TypeElement;
import javax.lang.model.element.VariableElement;

/** LANGUAGE.md, rule by rule, held against the program as the compiler reads it. */
public final class LanguageTest {
    private static final Path PROGRAM = Path.of("src/main/java/Ironwood.java");
    private static final Path DOCUMENT = Path.of("../shared/DOC.md");
    /** What the program is written with: all of it is among what the rules leave. */
    private static final Set<String> USED = Set.of("COMPILATION_UNIT", "CLASS", "METHOD", "VARIABLE", "MODIFIERS",
            "BLOCK", "IF", "FOR_LOOP", "SWITCH", "CASE", "CONSTANT_CASE_LABEL", "DEFAULT_CASE_LABEL", "RETURN",
            "THROW", "EXPRESSION_STATEMENT", "ASSIGNMENT", "OR_ASSIGNMENT", "AND_ASSIGNMENT", "PLUS_ASSIGNMENT",
            "CONDITIONAL_EXPRESSION", "CONDITIONAL_AND", "CONDITIONAL_OR", "LOGICAL_COMPLEMENT",
            "BITWISE_COMPLEMENT", "UNARY_MINUS", "POSTFIX_INCREMENT", "POSTFIX_DECREMENT", "PLUS", "MINUS",
            "MULTIPLY", "DIVIDE", "AND", "OR", "LEFT_SHIFT", "RIGHT_SHIFT", "LESS_THAN", "LESS_THAN_EQUAL",
            "GREATER_THAN", "GREATER_THAN_EQUAL", "EQUAL_TO", "NOT_EQUAL_TO", "PARENTHESIZED", "TYPE_CAST",
            "METHOD_INVOCATION", "MEMBER_SELECT", "ARRAY_ACCESS", "NEW_CLASS", "NEW_ARRAY", "IDENTIFIER",
            "PRIMITIVE_TYPE", "ARRAY_TYPE", "INT_LITERAL", "LONG_LITERAL", "DOUBLE_LITERAL", "BOOLEAN_LITERAL",
            "STRING_LITERAL");
    private static final Set<String> TYPES = Set.of("void", "int", "long", "boolean", "double", "int[]", "long[]");
    private static final Set<String> LIBRARY = Set.of("java.lang.Long.bitCount(long)", "java.lang.Math.min(int,int)",
            "java.lang.IllegalStateException.IllegalStateException(java.lang.String)",
            "java.lang.IllegalArgumentException.IllegalArgumentException(java.lang.String)",
            "java.lang.IndexOutOfBoundsException.IndexOutOfBoundsException(java.lang.String)",
            "java.lang.Object.Object()");
    private static final int MOST_OPEN = 8;
    private static final int MOST_LINES = 60;
    private static final int MOST_CLASSES = 12;
    private static final int MOST_FIELDS = 20;
    private static final int MOST_PARAMETERS = 7;
    private static final long ROOM = 7_300_000;
    private static Source source;
    private static TypeElement program;

    private LanguageTest() {
    }

    public static void main(String[] args) throws IOException {
        source = Source.of(PROGRAM);
        program = source.classes.get(0);
        List<String> document = Files.readAllLines(DOCUMENT);
        Expect.holds("1. The face: the members of the document and no other", () -> face(document));
        Expect.holds("1. No private method bears the name of a public one", LanguageTest::names);
        Expect.holds("2. Classes inside: private and static, no lambda, no method reference", LanguageTest::classes);
        Expect.holds("3. Types: those that stand there alone", LanguageTest::types);
        Expect.holds("4. The library: only what stands here", LanguageTest::library);
        Expect.holds("5. Static fields are final: constants", LanguageTest::constants);
        Expect.holds("6. A call of the face throws what the document says, and nothing else", LanguageTest::thrown);
        Expect.holds("7. A divisor is looked at before it divides", () -> noBreach(7));
        Expect.holds("8. Recursion: there is none", LanguageTest::recursion);
        Expect.holds("9. Every loop has an end that can be seen from its own lines", () -> noBreach(9));
        Expect.holds("10. The program is written with what the rules leave", LanguageTest::kinds);
        Expect.holds("11. Short methods, few parameters, classes and fields; eight calls deep", LanguageTest::sizes);
        Expect.holds("12. What is made, is made with the object", LanguageTest::room);
        Expect.holds("13. The same calls always give the same answers", LanguageTest::sameAnswers);
        Expect.end("LanguageTest");
    }

    private static void face(List<String> document) {
        List<String> due = new ArrayList<>();
        for (String line : document) {
            if (line.startsWith("    public ")) {
                due.add(line.strip().replace("public ", "").replace(";", ""));
            }
        }
        due.sort(null);
        List<String> got = new ArrayList<>();
        for (Element member : program.getEnclosedElements()) {
            if (member instanceof ExecutableElement method && !Source.isPrivate(member)) {
                Expect.same(method + " is", method.getModifiers().toString(), "[public]");
                got.add(told(method));
            } else if (member.getKind() == ElementKind.FIELD) {
                Expect.yes(member + " is private", Source.isPrivate(member));
            }
        }
        got.sort(null);
        Expect.yes("the document tells its face", due.size() == 33);
        Expect.same("the face", String.join("; ", got), String.join("; ", due));
        Expect.same("the class is", program.getModifiers().toString(), "[public, final]");
        Expect.same("classes in the file", source.unit.getTypeDecls().size(), 1);
        Expect.yes("no package", source.unit.getPackageName() == null);
        Expect.yes("no import", source.unit.getImports().isEmpty());
    }

    private static String told(ExecutableElement method) {
        String parameters = method.getParameters().stream()
                .map(p -> p.asType() + " " + p.getSimpleName()).collect(Collectors.joining(", "));
        String thrown = method.getThrownTypes().stream()
                .map(LanguageTest::simple).collect(Collectors.joining(", "));
        boolean isConstructor = method.getKind() == ElementKind.CONSTRUCTOR;
        return (isConstructor ? "Ironwood" : method.getReturnType() + " " + method.getSimpleName())
                + "(" + parameters + ")" + (thrown.isEmpty() ? "" : " throws " + thrown);
    }

    private static String simple(Object name) {
        return name.toString().replaceAll("^.*\\.", "");
    }

    private static void names() {
        Set<String> names = new TreeSet<>();
        for (Source.Method method : source.methods.values()) {
            if (!Source.isPrivate(method.element)) {
                names.add(method.element.getSimpleName().toString());
            }
        }
        for (Source.Method method : source.methods.values()) {
            boolean isTaken = Source.isPrivate(method.element) && !method.isConstructor()
                    && names.contains(method.element.getSimpleName().toString());
            Expect.no(method + " bears a public name", isTaken);
        }
    }

    private static void classes() {
        for (TypeElement each : source.classes) {
            boolean isInside = each != program;
            boolean isStatic = each.getModifiers().contains(Modifier.STATIC);
            Expect.yes(each + " is private and static", !isInside || Source.isPrivate(each) && isStatic);
            Expect.yes(each + " is a class", each.getKind() == ElementKind.CLASS);
            for (Element member : each.getEnclosedElements()) {
                Expect.yes(member + " of " + each + " is private", !isInside || Source.isPrivate(member));
            }
        }
    }

    private static void types() {
        for (String type : source.types) {
            Expect.yes("the type " + type, TYPES.contains(type) || type.startsWith("Ironwood."));
        }
        noBreach(3);
    }

    private static void library() {
        for (String used : source.library) {
            Expect.yes(used + " is used", LIBRARY.contains(used));
        }
    }

    private static void constants() {
        for (TypeElement each : source.classes) {
            for (Element member : each.getEnclosedElements()) {
                if (member instanceof VariableElement field && field.getModifiers().contains(Modifier.STATIC)) {
                    Expect.yes(field + " is final", field.getModifiers().contains(Modifier.FINAL));
                    Expect.yes(field + " is a constant", field.getConstantValue() != null);
                }
            }
        }
        for (Tree member : ((ClassTree) source.unit.getTypeDecls().get(0)).getMembers()) {
            Expect.no("a static block", member.getKind() == Tree.Kind.BLOCK);
        }
    }

    private static void thrown() {
        noBreach(6);
        for (Source.Method method : source.methods.values()) {
            if (!Source.isPrivate(method.element)) {
                Set<String> due = new TreeSet<>();
                method.element.getThrownTypes().forEach(type -> due.add(type.toString()));
                Expect.same(method + " throws", source.thrownBy(method.element).toString(), due.toString());
            }
        }
    }

    private static void recursion() {
        for (Source.Method method : source.methods.values()) {
            Expect.no(method + " comes to call itself", source.depthOf(method.element, new ArrayList<>()) < 0);
        }
    }

    private static void kinds() {
        for (Tree.Kind kind : source.kinds) {
            Expect.yes(kind + " is used", USED.contains(kind.name()));
        }
        noBreach(10);
    }

    private static void sizes() {
        for (Source.Method method : source.methods.values()) {
            int parameters = method.element.getParameters().size();
            Expect.yes(method + " takes " + parameters, parameters <= MOST_PARAMETERS);
            Expect.yes(method + " has " + method.lines + " lines", method.lines <= MOST_LINES);
            int depth = source.depthOf(method.element, new ArrayList<>());
            Expect.yes(method + " goes " + depth + " deep", depth <= MOST_OPEN);
        }
        Expect.yes(source.classes.size() + " classes", source.classes.size() <= MOST_CLASSES);
        for (TypeElement each : source.classes) {
            long fields = each.getEnclosedElements().stream()
                    .filter(member -> member.getKind() == ElementKind.FIELD)
                    .filter(member -> !member.getModifiers().contains(Modifier.STATIC)).count();
            Expect.yes(each + " has " + fields + " fields", fields <= MOST_FIELDS);
        }
    }

    private static void noBreach(int rule) {
        List<String> found = source.breaches.getOrDefault(rule, List.of());
        Expect.same("breaches of rule " + rule, found.toString(), "[]");
    }

    private static void room() {
        noBreach(12);
        Ironwood[] all = new Ironwood[4];
        for (int k = 0; k < all.length; k++) {
            all[k] = busy();
        }
        long before = made();
        for (Ironwood x : all) {
            for (int k = 0; k < 150; k++) {
                x.setTarget(39, k % 41);
                x.culprit();
                x.digest();
            }
        }
        long bytes = made() - before;
        Expect.yes("calls make nothing, but made " + bytes + " bytes", bytes < 15_000);
        before = made();
        Ironwood[] more = new Ironwood[100];
        for (int k = 0; k < more.length; k++) {
            more[k] = new Ironwood();
        }
        bytes = (made() - before) / more.length;
        Expect.yes("an object takes " + bytes + " bytes: a thousand have room", bytes / 4 < ROOM / 1000);
    }

    private static void sameAnswers() {
        Ironwood x = busy();
        Ironwood other = busy();
        for (int target = 0; target <= 40; target++) {
            x.setTarget(39, target);
            other.setTarget(39, target);
            Expect.same("culprit()", x.culprit(), other.culprit());
            Expect.same("digest()", x.digest(), other.digest());
        }
    }

    private static Ironwood busy() {
        Ironwood x = new Ironwood();
        for (int v = 0; v < 12; v++) {
            x.variable(v % 4, v % 3 == 0);
        }
        for (int s = 0; s < 39; s++) {
            x.call(s % 12, (s + 1) % 12, (s + 6) % 12, s % 4);
        }
        x.branch(false, 0);
        return x;
    }

    private static long made() {
        return ManagementFactory.getThreadMXBean() instanceof com.sun.management.ThreadMXBean bean
                ? bean.getThreadAllocatedBytes(Thread.currentThread().getId()) : 0;
    }
}
