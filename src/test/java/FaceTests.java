import java.io.IOException;
import java.lang.management.ManagementFactory;
import java.lang.reflect.Field;
import java.lang.reflect.Member;
import java.lang.reflect.Method;
import java.lang.reflect.Modifier;
import java.nio.file.Files;
import java.nio.file.Path;
import java.util.ArrayList;
import java.util.Arrays;
import java.util.List;
import java.util.Set;
import java.util.TreeSet;

/** The class's face is the document's, its source keeps to LANGUAGE.md where that is easily seen, its room is small. */
public final class FaceTests {
    private static final String[] FACE = {
        "int feed(int, int, int, int, int)", "boolean end(int)", "int next(int)", "boolean members(int)",
        "int statute(int)", "int fault()", "int carries(int, int)", "int many(int)", "int setAt(int, int)",
        "int stronger(int, int)", "int turns(int)", "long share(int, int, int)", "long chance(int)",
        "int ally(int)", "int weigh()", "int weight(int)", "boolean rank(int)", "int beats(int, int)",
        "int free()", "int top()", "int leads(boolean)", "int rows(int)", "int rowAt(int)",
        "int vote(int, boolean)", "int unfit(int)", "int sure(int, int)", "int open(int)", "int count(int)"
    };

    public static void main(String[] args) throws IOException {
        face();
        namesOfMethods();
        source();
        room();
        Check.finish("FaceTests");
    }

    private static String told(Method method) {
        String types = Arrays.toString(method.getParameterTypes());
        return method.getReturnType() + " " + method.getName() + "(" + types.substring(1, types.length() - 1) + ")";
    }

    private static void face() {
        Set<String> due = new TreeSet<>(List.of(FACE));
        Set<String> got = new TreeSet<>();
        List<Member> all = new ArrayList<>(List.of(CarryHouse.class.getDeclaredMethods()));
        for (Method method : CarryHouse.class.getDeclaredMethods()) {
            if (Modifier.isPublic(method.getModifiers()) && !Modifier.isStatic(method.getModifiers())) {
                got.add(told(method));
                all.remove(method);
            }
        }
        Check.due("the face is " + got, got.equals(due), true);
        for (Field field : CarryHouse.class.getDeclaredFields()) {
            if (!field.getName().equals("NONE")) {
                all.add(field);
            }
        }
        for (Member member : all) {
            Check.due(member + " is private", Modifier.isPrivate(member.getModifiers()), true);
        }
        Check.due("one constructor", CarryHouse.class.getConstructors().length, 1);
        Check.due("the class is final", Modifier.isFinal(CarryHouse.class.getModifiers()), true);
    }

    private static void namesOfMethods() {
        Set<String> open = new TreeSet<>();
        for (String call : FACE) {
            open.add(call.substring(call.indexOf(' ') + 1, call.indexOf('(')));
        }
        List<Class<?>> classes = new ArrayList<>(List.of(CarryHouse.class.getDeclaredClasses()));
        Check.due("at most twelve classes", classes.size() < 12, true);
        for (Class<?> inside : classes) {
            Check.due(inside + " is static", Modifier.isStatic(inside.getModifiers()), true);
            int fields = 0;
            for (Field field : inside.getDeclaredFields()) {
                fields += Modifier.isStatic(field.getModifiers()) ? 0 : 1;
            }
            Check.due(inside + " has some twenty fields at most", fields <= 20, true);
            for (Method method : inside.getDeclaredMethods()) {
                Check.due(method + " has a name of its own", open.contains(method.getName()), false);
                Check.due(method + " has seven parameters at most", method.getParameterCount() <= 7, true);
            }
        }
    }

    private static void source() throws IOException {
        List<String> lines = Files.readAllLines(Path.of("src/main/java/CarryHouse.java"));
        String[] ruledOut = {
            "->", "::", "catch", "finally", "synchronized", "assert", "Exact(", "System.", "package ", "static {",
            "float", "double", "protected ", "Thread", "Random"
        };
        int methodStart = 0;
        for (int i = 0; i < lines.size(); i++) {
            String line = lines.get(i);
            for (String word : ruledOut) {
                Check.due("line " + (i + 1) + " has " + word, line.contains(word), false);
            }
            if (line.startsWith("import")) {
                Check.due(line, line.equals("import java.util.NoSuchElementException;"), true);
            }
            if (line.matches(" {4,8}[a-z].*\\{")) {
                methodStart = i;
            }
            if (line.matches(" {8}}")) {
                Check.due("the method at line " + (methodStart + 1) + " is short", i - methodStart <= 60, true);
            }
        }
    }

    /** A run of dear calls makes little: rows are made once, and used again. */
    private static void room() {
        com.sun.management.ThreadMXBean threads =
            (com.sun.management.ThreadMXBean) ManagementFactory.getThreadMXBean();
        run();
        long ahead = threads.getCurrentThreadAllocatedBytes();
        run();
        long made = threads.getCurrentThreadAllocatedBytes() - ahead;
        Check.due("a run made " + made + " bytes", made < 100000, true);
    }

    private static void run() {
        CarryHouse x = new CarryHouse();
        x.members(12);
        Check.statute(x, "carry 30 of [13*a 7*b 10*c 2*d 9*e 6*f 11*g];", 0);
        for (int i = 0; i < 45; i++) {
            x.many(1);
            x.setAt(2, i);
            x.share(i % 12, i % 3, 1);
            x.chance(i % 11);
            x.ally(i % 12);
            x.weigh();
            x.top();
            x.rows(i % 7);
            x.vote(i, true);
            x.open(0);
            x.next(1);
        }
    }
}
