import java.lang.reflect.Array;
import java.lang.reflect.Constructor;
import java.lang.reflect.Field;
import java.lang.reflect.Method;
import java.lang.reflect.Modifier;
import java.nio.file.Files;
import java.nio.file.Path;
import java.util.Arrays;
import java.util.IdentityHashMap;
import java.util.Map;
import java.util.Set;
import java.util.TreeSet;
import java.util.regex.Matcher;
import java.util.regex.Pattern;

/** The face of the class, the room that an object takes, and what LANGUAGE.md forbids by the word. */
public final class LanguageTest {
    private static final Set<String> FACE = new TreeSet<>(Arrays.asList(
            "int begin(int)", "int letter(int)", "int clear()", "int relator()", "int subgroup()",
            "int run(int)", "int count(int)", "int known(int,int)", "int number(int)",
            "int entry(int,int)", "int move(int)", "int cycles(boolean)", "long order()",
            "int resting()", "int orbit(int)"));
    private static final String[] FORBIDDEN = {
        "\\bthrow\\b", "\\btry\\b", "\\bcatch\\b", "\\bsynchronized\\b", "\\bassert\\b", "->", "::",
        "\\bstatic\\s*\\{", "\\bwhile\\s*\\(true\\)", "\\bfor\\s*\\(;;\\)", "Exact\\(", "\\bprotected\\b",
        "\\bpackage\\b", "Arrays\\.fill\\(\\w+, (true|false)\\)", "\\bSystem\\.(?!arraycopy)"};
    private static final int MOST_CALLS = 512;
    private static int wrong = 0;

    public static void main(String[] args) throws Exception {
        testConstants();
        testFace();
        testClassesInside();
        testWords();
        testRoom();
        System.out.println(wrong == 0 ? "the face and the rules are kept" : wrong + " faults");
        if (wrong != 0) {
            System.exit(1);
        }
    }

    private static void due(String what, Object got, Object want) {
        if (!got.equals(want)) {
            wrong++;
            System.out.println(what + ": " + got + ", due is " + want);
        }
    }

    private static void testConstants() {
        due("BAD", CosetTable.BAD, -1);
        due("NONE", CosetTable.NONE, -2);
    }

    private static void testFace() {
        due("public and final", CosetTable.class.getModifiers(), Modifier.PUBLIC | Modifier.FINAL);
        Set<String> seen = new TreeSet<>();
        Set<String> publicNames = new TreeSet<>();
        for (Method m : CosetTable.class.getDeclaredMethods()) {
            if (!Modifier.isPrivate(m.getModifiers())) {
                due(m + " is public and not static", m.getModifiers(), Modifier.PUBLIC);
                String types = Arrays.toString(Arrays.stream(m.getParameterTypes()).map(Class::getName).toArray());
                seen.add(m.getReturnType() + " " + m.getName() + "(" + types.replaceAll("[\\[\\] ]", "") + ")");
                publicNames.add(m.getName());
            }
        }
        due("the face", seen, FACE);
        for (Class<?> c : withClassesInside()) {
            for (Method m : c.getDeclaredMethods()) {
                boolean other = c != CosetTable.class || Modifier.isPrivate(m.getModifiers());
                due(m + " bears a public name", other && publicNames.contains(m.getName()), false);
            }
        }
        Constructor<?>[] constructors = CosetTable.class.getDeclaredConstructors();
        due("constructors", constructors.length, 1);
        due("constructor", constructors[0].toString(), "public CosetTable()");
        for (Field f : CosetTable.class.getDeclaredFields()) {
            boolean constant = f.getName().equals("BAD") || f.getName().equals("NONE");
            due(f + " is public", Modifier.isPublic(f.getModifiers()), constant);
            due(f + " is private", Modifier.isPrivate(f.getModifiers()), !constant);
        }
    }

    private static Class<?>[] withClassesInside() {
        Class<?>[] inside = CosetTable.class.getDeclaredClasses();
        Class<?>[] all = Arrays.copyOf(inside, inside.length + 1);
        all[inside.length] = CosetTable.class;
        return all;
    }

    private static void testClassesInside() {
        due("at most twelve classes", withClassesInside().length <= 12, true);
        for (Class<?> c : withClassesInside()) {
            due(c + " is static", c == CosetTable.class || Modifier.isStatic(c.getModifiers()), true);
            int fields = 0;
            for (Field f : c.getDeclaredFields()) {
                boolean isStatic = Modifier.isStatic(f.getModifiers());
                due(f + " is no static state", isStatic && !Modifier.isFinal(f.getModifiers()), false);
                fields += isStatic ? 0 : 1;
            }
            due(c + " has at most twenty fields", fields <= 20, true);
            for (Method m : c.getDeclaredMethods()) {
                due(m + " takes at most seven", m.getParameterCount() <= 7, true);
            }
        }
    }

    private static void testWords() throws Exception {
        String text = Files.readString(Path.of("src/main/java/CosetTable.java"));
        String code = text.replaceAll("(?s)/\\*.*?\\*/", "").replaceAll("//[^\n]*", "");
        for (String word : FORBIDDEN) {
            Matcher m = Pattern.compile(word).matcher(code);
            due("found " + word, m.find(), false);
        }
        Matcher imports = Pattern.compile("import ([^;]*);").matcher(code);
        while (imports.find()) {
            String name = imports.group(1);
            due("import " + name, name.matches("java\\.util\\.(Arrays|ArrayList|List|Iterator)"), true);
        }
    }

    /** Even if every call of a run made a new object, all would have to fit in the room. */
    private static void testRoom() throws Exception {
        Map<Object, Boolean> seen = new IdentityHashMap<>();
        long elements = countElements(new CosetTable(), seen);
        System.out.println("an object: " + seen.size() + " objects and arrays, " + elements + " fields and elements");
        due("objects fit", seen.size() * MOST_CALLS < 600000, true);
        due("elements fit", elements * MOST_CALLS < 7300000, true);
    }

    private static long countElements(Object o, Map<Object, Boolean> seen) throws Exception {
        if (o == null || seen.put(o, true) != null) {
            return 0;
        }
        long elements = 0;
        if (o.getClass().isArray()) {
            elements = Array.getLength(o);
            for (int i = 0; i < Array.getLength(o) && !o.getClass().getComponentType().isPrimitive(); i++) {
                elements += countElements(Array.get(o, i), seen);
            }
            return elements;
        }
        for (Field f : o.getClass().getDeclaredFields()) {
            if (!Modifier.isStatic(f.getModifiers())) {
                f.setAccessible(true);
                elements += 1 + (f.getType().isPrimitive() ? 0 : countElements(f.get(o), seen));
            }
        }
        return elements;
    }
}
