import java.io.IOException;
import java.lang.reflect.Constructor;
import java.lang.reflect.Field;
import java.lang.reflect.Method;
import java.lang.reflect.Modifier;
import java.nio.file.Files;
import java.nio.file.Path;
import java.util.Map;
import java.util.Set;
import java.util.TreeMap;
import java.util.TreeSet;
import java.util.regex.Matcher;
import java.util.regex.Pattern;

/** The public face, and those rules of LANGUAGE.md that can be seen from the class and its text. */
public final class FaceTest {
    private static final Path SOURCE = Path.of("src/main/java/LongestPast.java");
    private static final Map<String, Integer> METHODS = new TreeMap<>();

    static {
        String[] none = {"clear", "word", "undo", "likeliest", "length", "best", "agrees"};
        String[] one = {"type", "packs", "cuts", "sign", "bit", "unpacked", "keep", "back", "told"};
        for (String name : none) METHODS.put(name, 0);
        for (String name : one) METHODS.put(name, 1);
        METHODS.put("chance", 2);
        METHODS.put("escapes", 2);
        METHODS.put("begins", 4);
        METHODS.put("count", 5);
    }

    public static void main(String[] args) throws Exception {
        face();
        fields();
        inside();
        text();
        Due.ends("FaceTest");
    }

    private static void face() {
        Class<?> c = LongestPast.class;
        Due.must("the class is public and final", Modifier.isPublic(c.getModifiers()) && Modifier.isFinal(c.getModifiers()));
        Constructor<?>[] made = c.getDeclaredConstructors();
        Due.due("constructors", made.length, 1);
        Due.must("the constructor is public, without parameters",
            Modifier.isPublic(made[0].getModifiers()) && made[0].getParameterCount() == 0);
        Set<String> seen = new TreeSet<>();
        for (Method m : c.getDeclaredMethods()) {
            if (Modifier.isPrivate(m.getModifiers())) {
                Due.must("private " + m.getName() + " bears no public name", !METHODS.containsKey(m.getName()));
            } else {
                Due.must(m.getName() + " is of the face", METHODS.containsKey(m.getName()) && seen.add(m.getName()));
                Due.must(m.getName() + " is public, not static, and answers an int", m.getModifiers() == Modifier.PUBLIC
                    && m.getReturnType() == int.class);
                Due.due(m.getName() + "'s parameters", m.getParameterCount(), METHODS.getOrDefault(m.getName(), -1));
                for (Class<?> p : m.getParameterTypes()) Due.must(m.getName() + " takes ints", p == int.class);
            }
        }
        Due.due("methods", seen.size(), METHODS.size());
    }

    private static void fields() {
        Set<String> constants = new TreeSet<>();
        for (Field f : LongestPast.class.getDeclaredFields()) {
            if (Modifier.isPrivate(f.getModifiers())) continue;
            constants.add(f.getName());
            Due.must(f.getName() + " is a public constant",
                f.getModifiers() == (Modifier.PUBLIC | Modifier.STATIC | Modifier.FINAL) && f.getType() == int.class);
        }
        Due.must("the constants", constants.equals(Set.of("BAD", "STATE", "FULL", "NONE")));
        Due.due("BAD", LongestPast.BAD, -1);
        Due.due("STATE", LongestPast.STATE, -2);
        Due.due("FULL", LongestPast.FULL, -3);
        Due.due("NONE", LongestPast.NONE, -9);
    }

    private static void inside() {
        Class<?>[] inside = LongestPast.class.getDeclaredClasses();
        Due.must("at most twelve classes", inside.length + 1 <= 12);
        for (Class<?> c : inside) {
            Due.must(c.getName() + " is static", Modifier.isStatic(c.getModifiers()));
            Due.must(c.getName() + " is not public",
                !Modifier.isPublic(c.getModifiers()) && !Modifier.isProtected(c.getModifiers()));
            int own = 0;
            for (Field f : c.getDeclaredFields()) if (!Modifier.isStatic(f.getModifiers())) own++;
            Due.must(c.getName() + " has at most twenty fields", own <= 20);
            for (Method m : c.getDeclaredMethods()) {
                Due.must(m.getName() + " takes at most seven", m.getParameterCount() <= 7);
                Due.must(m.getName() + " bears no public name", !METHODS.containsKey(m.getName()));
            }
        }
        for (Class<?> c : inside) staticsAreFinal(c);
        staticsAreFinal(LongestPast.class);
    }

    private static void staticsAreFinal(Class<?> c) {
        for (Field f : c.getDeclaredFields()) {
            if (Modifier.isStatic(f.getModifiers())) {
                Due.must(f.getName() + " is final", Modifier.isFinal(f.getModifiers()));
            }
        }
    }

    private static void text() throws IOException {
        String code = Files.readString(SOURCE).replaceAll("(?s)/\\*.*?\\*/", "").replaceAll("//[^\n]*", "");
        String[] words = {"throw", "throws", "try", "catch", "finally", "synchronized", "assert", "package", "import", "protected",
            "volatile", "transient", "native", "System", "Random", "Thread", "Object", "String", "Exception", "Error",
            "hashCode", "equals", "toString", "MAX_VALUE", "MIN_VALUE", "double", "float"};
        for (String word : words) {
            Due.must("no '" + word + "'", !Pattern.compile("\\b" + word + "\\b").matcher(code).find());
        }
        Due.must("no lambda, method reference, annotation or text", !Pattern.compile("->|::|@|\"").matcher(code).find());
        Due.must("no endless loop", !Pattern.compile("while\\s*\\(\\s*true|for\\s*\\(\\s*;\\s*;").matcher(code).find());
        libraryCalls(code);
    }

    private static void libraryCalls(String code) {
        Set<String> allowed = Set.of("Math.max", "Math.min", "Integer.bitCount");
        Matcher m = Pattern.compile("\\b[A-Z]\\w*\\.\\w+").matcher(code);
        while (m.find()) Due.must(m.group() + " is of the library that is allowed", allowed.contains(m.group()));
    }
}
