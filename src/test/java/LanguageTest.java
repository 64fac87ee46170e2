import java.io.IOException;
import java.lang.management.ManagementFactory;
import java.lang.reflect.Constructor;
import java.lang.reflect.Field;
import java.lang.reflect.Method;
import java.lang.reflect.Modifier;
import java.nio.file.Files;
import java.nio.file.Path;
import java.util.ArrayList;
import java.util.List;
import java.util.Set;
import java.util.TreeSet;
import java.util.regex.Pattern;

/** The face of the class, the rules of LANGUAGE.md that can be looked up, and what calls make. */
public final class LanguageTest {
    private static final Check CHECK = new Check("LanguageTest");
    private static final Path SOURCE = Path.of("src/main/java/DrawLabels.java");
    private static final long ROOM = 20_000_000;
    private static final String[] FACE = {
        "int point(int,int)", "int move(int,int,int)", "int tick(int)", "int at(int,int)",
        "int object(int,int,int,int)", "int corner(int)", "int area()", "int style(int,int)",
        "int hide(int,boolean)", "int fallen(int)", "long measure(int)", "int window(int,int,int,int)",
        "int fit()", "int side(int)", "int sheet(int,int,int)", "int grid(int)", "int hatch(int)",
        "int scale(boolean)", "float single(int,int)", "int solid(int,int)", "int vertex(int,int,int,int)",
        "int face(int,int,int)", "int view(int)", "int edge(int,int,int)", "int label(int,int)", "int draw()",
        "int mark(int,int)", "int placed(int)", "int octet(int)", "int digest()", "int count(int)", "int code()",
        "int group(int,int,int)", "int put(int,int,int)", "int member(int,int)", "int paint(int,int)",
        "long reach(int)"};

    public static void main(String[] args) throws IOException {
        face();
        classesInside();
        source();
        room();
        CHECK.end();
    }

    private static String signature(Method m) {
        StringBuilder text = new StringBuilder(m.getReturnType() + " " + m.getName() + "(");
        Class<?>[] types = m.getParameterTypes();
        for (int i = 0; i < types.length; i++) {
            text.append(i > 0 ? "," : "").append(types[i]);
        }
        return text.append(")").toString();
    }

    private static void face() {
        CHECK.part("rule 1");
        CHECK.due("public final class", DrawLabels.class.getModifiers(), Modifier.PUBLIC | Modifier.FINAL);
        Set<String> methods = new TreeSet<>();
        for (Method m : DrawLabels.class.getDeclaredMethods()) {
            if (!Modifier.isPrivate(m.getModifiers())) {
                methods.add(signature(m));
                CHECK.due("modifiers of " + m.getName(), m.getModifiers(), Modifier.PUBLIC);
            }
        }
        CHECK.dueText("methods", methods.toString(), new TreeSet<>(List.of(FACE)).toString());
        Constructor<?>[] constructors = DrawLabels.class.getDeclaredConstructors();
        CHECK.due("constructors", constructors.length, 1);
        CHECK.due("constructor is public", constructors[0].getModifiers(), Modifier.PUBLIC);
        CHECK.due("constructor's parameters", constructors[0].getParameterCount(), 0);
        Set<String> fields = new TreeSet<>();
        for (Field f : DrawLabels.class.getDeclaredFields()) {
            if (!Modifier.isPrivate(f.getModifiers())) {
                fields.add(f.getName() + " " + Modifier.toString(f.getModifiers()));
            }
        }
        CHECK.dueText("constants", fields.toString(), "[FULL public static final, NONE public static final, "
                + "NOT public static final, OUTSIDE public static final, UNKNOWN public static final]");
    }

    private static void classesInside() {
        Set<String> names = new TreeSet<>();
        for (String signature : FACE) {
            names.add(signature.substring(signature.indexOf(' ') + 1, signature.indexOf('(')));
        }
        List<Class<?>> all = new ArrayList<>(List.of(DrawLabels.class.getDeclaredClasses()));
        for (Class<?> c : all) {
            CHECK.part("rule 1, " + c.getSimpleName());
            CHECK.due("static", c.getModifiers() & Modifier.STATIC, Modifier.STATIC);
            CHECK.due("not public", c.getModifiers() & (Modifier.PUBLIC | Modifier.PROTECTED), 0);
        }
        all.add(DrawLabels.class);
        CHECK.part("rule 11");
        CHECK.due("some twelve classes", Math.max(all.size(), 13), 13);
        for (Class<?> c : all) {
            CHECK.part("rules 1, 5, 11, " + c.getSimpleName());
            int held = 0;
            for (Field f : c.getDeclaredFields()) {
                boolean fixed = Modifier.isStatic(f.getModifiers());
                held += fixed ? 0 : 1;
                CHECK.due(f.getName() + " is final, if static", !fixed || Modifier.isFinal(f.getModifiers()) ? 1 : 0, 1);
            }
            CHECK.due("some twenty fields", Math.max(held, 22), 22);
            for (Method m : c.getDeclaredMethods()) {
                CHECK.due(m.getName() + ": at most seven parameters", Math.max(m.getParameterCount(), 7), 7);
                boolean own = Modifier.isPrivate(m.getModifiers());
                CHECK.due(m.getName() + " is no name of the face", own && names.contains(m.getName()) ? 1 : 0, 0);
            }
        }
    }

    private static void source() throws IOException {
        CHECK.part("rules 2, 4, 6, 13");
        String text = Files.readString(SOURCE);
        String[] banned = {"(?m)^package ", "(?m)^(?!.*\\b(case|default)\\b).*->", "::", "Exact\\(", "\\bfinally\\b", "\\bsynchronized\\b",
            "\\bassert\\b", "\\bstatic \\{", "\\bvolatile\\b", "\\bnative\\b", "\\bThread\\b", "\\bRandom\\b", "\\bSystem\\.(?!arraycopy)",
            "getMessage", "printStackTrace", "extends \\w*Exception", "Throwable", "catch \\(Exception", "NullPointerException",
            "ArrayIndexOutOfBoundsException", "ClassCastException", "NegativeArraySizeException", "ArrayStoreException",
            "(?m)^import (?!java\\.util\\.(ArrayList|List|Arrays|Iterator|NoSuchElementException);)"};
        for (String word : banned) {
            CHECK.due("has no " + word, Pattern.compile(word).matcher(text).find() ? 1 : 0, 0);
        }
        CHECK.due("characters up to 255", text.chars().max().orElse(0) <= 255 ? 1 : 0, 1);
        CHECK.part("rule 11");
        List<String> lines = text.lines().toList();
        int start = -1;
        for (int i = 0; i < lines.size(); i++) {
            String line = lines.get(i);
            boolean opens = line.endsWith(") {") && !line.contains("class ") && (line.matches(" {4}\\w.*") || line.matches(" {8}\\w.*"))
                    && !line.trim().matches("(if|for|while|switch|else).*");
            if (opens) {
                start = i;
            }
            if (start >= 0 && (line.equals("    }") || line.equals("        }"))) {
                CHECK.due("some sixty lines from " + (start + 1), Math.max(i - start + 1, 66), 66);
                start = -1;
            }
        }
    }

    /** All calls of a run share one room of some 7.3 million fields and elements, and so do the desk and its 512 calls. */
    private static void room() {
        CHECK.part("rule 12");
        for (int i = 0; i < 3; i++) {
            useAll(new DrawLabels());
        }
        long before = allocated();
        useAll(new DrawLabels());
        long made = allocated() - before;
        CHECK.due("a desk and its calls, in octets", Math.max(made, ROOM), ROOM);
    }

    private static long allocated() {
        return ((com.sun.management.ThreadMXBean) ManagementFactory.getThreadMXBean())
                .getThreadAllocatedBytes(Thread.currentThread().getId());
    }

    private static void useAll(DrawLabels desk) {
        for (int p = 0; p < 20; p++) {
            desk.point(p * 37 % 100, p * 53 % 100);
        }
        for (int o = 0; o < 20; o++) {
            desk.object(o % 7, o, o * 7 % 20, 1 + o % 3);
        }
        desk.corner(0);
        desk.corner(5);
        desk.corner(11);
        desk.area();
        desk.solid(0, 1);
        for (int k = 0; k < 8; k++) {
            desk.vertex(0, k * 3 % 8, k * 5 % 8, k);
        }
        desk.face(0, 6, 0x543210);
        desk.face(0, 3, 0x765);
        desk.grid(7);
        for (int l = 0; l < 20; l++) {
            desk.label(l, 1 + l % 3);
            desk.draw();
        }
        for (int k = 0; k < 60; k++) {
            desk.octet(k);
            desk.mark(k, k % 7);
            desk.placed(k);
            desk.edge(0, k, k % 4);
            desk.count(k % 12);
            desk.single(k % 20, k % 3);
        }
        desk.group(0, 8, 64);
        desk.put(0, 0, 0);
        desk.member(0, 0);
        desk.paint(0, 1);
        desk.fit();
        desk.draw();
        desk.digest();
        desk.measure(20);
        desk.reach(4);
    }
}
