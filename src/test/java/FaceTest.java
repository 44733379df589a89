import java.io.IOException;
import java.lang.reflect.Constructor;
import java.lang.reflect.Field;
import java.lang.reflect.Member;
import java.lang.reflect.Method;
import java.lang.reflect.Modifier;
import java.nio.file.Files;
import java.nio.file.Path;
import java.util.Set;
import java.util.TreeSet;
import java.util.regex.Matcher;
import java.util.regex.Pattern;

/** The document's face, what LANGUAGE.md forbids at a glance, and that no call makes an object. */
public final class FaceTest {
    private static final Due DUE = new Due("FaceTest");
    private static final Pattern DECLARED = Pattern.compile("public (?:int|long) \\w+\\([^)]*\\);");
    private static final String[] FORBIDDEN = {"throw", "try", "catch", "synchronized", "assert", "import", "package",
        "->", "::", "Exact", "System.out", "Random", "nanoTime", "currentTimeMillis", "@", "protected", "hashCode",
        "toString", "Object", "double", "float"};

    public static void main(String[] args) throws IOException {
        Path root = Path.of(System.getProperty("project.root", "."));
        String document = Files.readString(root.resolve("../shared/DOC.md"));
        String source = Files.readString(root.resolve("src/main/java/SquareRooms.java"));
        face(document);
        source(source);
        divisors(bare(source));
        sections(document, source);
        makesNothing();
        DUE.end();
    }

    private static void face(String document) {
        Set<String> want = new TreeSet<>();
        Matcher m = DECLARED.matcher(document);
        while (m.find()) {
            want.add(m.group().replaceAll("(int|long) \\w+([,)])", "$1$2"));
        }
        Set<String> got = new TreeSet<>();
        Set<String> names = new TreeSet<>();
        for (Method method : SquareRooms.class.getDeclaredMethods()) {
            if (Modifier.isPublic(method.getModifiers())) {
                got.add(told(method));
                names.add(method.getName());
            }
        }
        DUE.is("how many methods the document has", want.size(), 36);
        DUE.holds("the face is " + got + ", the document's is " + want, got.equals(want));
        DUE.holds("the class is public and final", SquareRooms.class.getModifiers() == (Modifier.PUBLIC | Modifier.FINAL));
        for (Constructor<?> c : SquareRooms.class.getDeclaredConstructors()) {
            DUE.holds("a constructor more: " + c, c.getParameterCount() == 0 && Modifier.isPublic(c.getModifiers()));
        }
        for (Field field : SquareRooms.class.getDeclaredFields()) {
            DUE.holds("not private: " + field, Modifier.isPrivate(field.getModifiers()));
        }
        fields(SquareRooms.class);
        for (Method method : SquareRooms.class.getDeclaredMethods()) {
            mayBe(method, names);
        }
        for (Class<?> inner : SquareRooms.class.getDeclaredClasses()) {
            inside(inner, names);
        }
    }

    private static String told(Method method) {
        StringBuilder told = new StringBuilder("public ").append(method.getReturnType()).append(' ');
        told.append(method.getName()).append('(');
        for (Class<?> type : method.getParameterTypes()) {
            told.append(told.charAt(told.length() - 1) == '(' ? "" : ", ").append(type);
        }
        return told.append(");").toString();
    }

    private static boolean isPlain(Member member) {
        return !member.isSynthetic();
    }

    private static void mayBe(Method method, Set<String> names) {
        boolean isFace = Modifier.isPublic(method.getModifiers());
        if (isPlain(method) && !isFace) {
            DUE.holds("not private: " + method, Modifier.isPrivate(method.getModifiers()));
            DUE.holds("bears a public name: " + method, !names.contains(method.getName()));
        }
        DUE.holds("too many parameters: " + method, method.getParameterCount() <= 7);
    }

    private static void inside(Class<?> inner, Set<String> names) {
        DUE.holds("not static: " + inner, Modifier.isStatic(inner.getModifiers()));
        fields(inner);
        for (Method method : inner.getDeclaredMethods()) {
            DUE.holds("bears a public name: " + method, !names.contains(method.getName()));
            DUE.holds("too many parameters: " + method, method.getParameterCount() <= 7);
        }
    }

    private static void fields(Class<?> of) {
        int fields = 0;
        for (Field field : of.getDeclaredFields()) {
            boolean isStatic = Modifier.isStatic(field.getModifiers());
            fields += isStatic ? 0 : 1;
            DUE.holds("static, not final: " + field, !isStatic || Modifier.isFinal(field.getModifiers()));
            DUE.holds("static, no number: " + field, !isStatic || field.getType().isPrimitive());
        }
        DUE.holds("too many fields: " + of, fields <= 20);
    }

    private static void source(String source) {
        String bare = bare(source);
        for (String word : FORBIDDEN) {
            DUE.holds("the source has " + word, !bare.contains(word));
        }
        for (int i = 0; i < source.length(); i++) {
            DUE.holds("a sign beyond 127 at " + i, source.charAt(i) < 128);
        }
        int classes = bare.split("\\bclass\\b").length - 1;
        DUE.holds("too many classes: " + classes, classes <= 12);
        int start = -1;
        String[] lines = source.split("\n");
        for (int i = 0; i < lines.length; i++) {
            boolean isMethod = lines[i].matches(" {4}( {4})?[^ ].*\\) \\{") && !lines[i].matches(" *(if|for|while|switch|}).*");
            start = isMethod ? i : start;
            DUE.holds("a method too long: line " + (i + 1), !lines[i].matches(" {4}( {4})?}") || i - start < 60 || start < 0);
        }
    }

    private static String bare(String source) {
        return source.replaceAll("(?s)/\\*.*?\\*/", "").replaceAll("//[^\n]*", "");
    }

    /** LANGUAGE.md, 7: what divides is a constant, or where it comes from it can be seen that it isn't 0. */
    private static void divisors(String bare) {
        Matcher m = Pattern.compile("[/%]=? *([\\w(.]+)").matcher(bare);
        int divisors = 0;
        while (m.find()) {
            String by = m.group(1);
            boolean isConstant = by.matches("[1-9]\\d*|[A-Z][A-Z_]+");
            boolean isLooked = Pattern.compile("\\bint " + Pattern.quote(by) + " = (Math\\.max\\(1, |[^;]*; "
                + Pattern.quote(by) + " > \\d)").matcher(bare).find();
            DUE.holds("a divisor that isn't looked at: " + m.group(), isConstant || isLooked);
            divisors++;
        }
        DUE.holds("the source divides", divisors > 0);
    }

    /** What the interface says ahead of calls stands between those of the section before and these. */
    private static void sections(String document, String source) {
        Matcher m = Pattern.compile("\nAhead of the calls ([^\n]*) the interface says: (---- [^\n]*)\\.\n").matcher(document);
        int end = 0;
        int sections = 0;
        while (m.find()) {
            int at = source.indexOf("// " + m.group(2) + "\n");
            DUE.holds(m.group(2) + " stands behind the calls before", at > end);
            for (String call : m.group(1).replaceAll("[` ]", "").split(",")) {
                int method = Math.max(source.indexOf(" int " + call + "("), source.indexOf(" long " + call + "("));
                DUE.holds(call + " stands behind " + m.group(2), method > at);
                end = Math.max(end, method);
            }
            sections++;
        }
        DUE.is("sections", sections, 6);
    }

    /** Calls of each method, counted by what the thread's heap grows. */
    private static void makesNothing() {
        com.sun.management.ThreadMXBean heap =
            (com.sun.management.ThreadMXBean) java.lang.management.ManagementFactory.getThreadMXBean();
        long grown = 1;
        SquareRooms x = new SquareRooms();
        for (int round = 0; round < 5 && grown != 0; round++) {
            long before = heap.getThreadAllocatedBytes(Thread.currentThread().getId());
            long none = heap.getThreadAllocatedBytes(Thread.currentThread().getId()) - before;
            before = heap.getThreadAllocatedBytes(Thread.currentThread().getId());
            callAll(x);
            grown = heap.getThreadAllocatedBytes(Thread.currentThread().getId()) - before - none;
        }
        DUE.is("bytes that calls make", grown, 0);
    }

    private static void callAll(SquareRooms x) {
        x.size(11);
        x.letter('t');
        x.letter('0');
        x.letter('0');
        x.letter('2');
        x.letter(';');
        x.text();
        x.pair(1, 2);
        x.drop();
        x.book();
        x.adder(0, 5);
        x.of(0, 4);
        x.is(4);
        x.right(0);
        x.build();
        x.cell(0, 0, 1, 2);
        x.at(0, 0, 0);
        x.faults(2, 0);
        x.indeed();
        x.faced();
        x.where(0, 1);
        x.starters(24, 4);
        x.strong(1);
        x.adders(-1, 0);
        x.odds(1);
        x.lots(50, 1, 1);
        x.turn(3, 4);
        x.turned(0, 0);
        x.turns();
        x.still();
        x.list(0, 40);
        x.put(0, 0, 1);
        x.look(0, 0);
        x.lays(0, 0);
        x.judge(0);
        x.sizes(0);
        x.undo();
        x.image();
        x.on();
        x.count(0);
    }
}
