import java.io.IOException;
import java.lang.reflect.Method;
import java.lang.reflect.Modifier;
import java.nio.file.Files;
import java.nio.file.Path;
import java.util.ArrayList;
import java.util.List;
import java.util.Set;
import java.util.TreeSet;
import java.util.regex.Matcher;
import java.util.regex.Pattern;
import java.util.stream.Stream;

/** README.md: each answer in its example is the one that comes, and no call and no test is left out. */
public final class ReadmeTest {
    private static final Pattern EXAMPLE = Pattern.compile("(?m)^x\\.(\\w+)\\((.*?)\\);(.*)$");
    private static final Pattern ANSWER = Pattern.compile("\\s+// (-?\\d+): .+");
    private static final Pattern ROW = Pattern.compile("(?m)^\\| `(\\w+)\\((.*?)\\)` \\|");

    public static void main(String[] args) throws IOException {
        String page = Files.readString(Path.of("README.md"));
        example(page);
        calls(page);
        constants(page);
        tests(page);
        Due.ends("ReadmeTest");
    }

    private static void example(String page) {
        LongestPast x = new LongestPast();
        Set<String> shown = new TreeSet<>();
        Matcher line = EXAMPLE.matcher(page);
        while (line.find()) {
            Run.Call call = new Run.Call(line.group(1), numbers(line.group(2)));
            Matcher answer = ANSWER.matcher(line.group(3));
            Due.must("the example tells what " + call + " answers", answer.matches());
            int got = call.on(x);
            if (answer.matches()) Due.due("the example's " + call, got, Integer.parseInt(answer.group(1)));
            shown.add(call.name());
        }
        Due.must("the example shows each call", shown.equals(face()));
    }

    private static void calls(String page) {
        Set<String> listed = new TreeSet<>();
        Matcher row = ROW.matcher(page);
        while (row.find()) {
            Due.must(row.group(1) + " stands once in the table", listed.add(row.group(1)));
            int many = row.group(2).isEmpty() ? 0 : row.group(2).split(", ").length;
            Due.due("parameters of " + row.group(1) + " in the table", many, parameters(row.group(1)));
        }
        Due.must("the table has each call and no other", listed.equals(face()));
    }

    private static void constants(String page) {
        String told = "`BAD` is " + LongestPast.BAD + ", `STATE` " + LongestPast.STATE + ", `FULL` " + LongestPast.FULL
            + ", `NONE` " + LongestPast.NONE + ".";
        Due.must("the constants are told", page.contains(told));
    }

    private static void tests(String page) throws IOException {
        Set<String> there = new TreeSet<>();
        try (Stream<Path> files = Files.list(Path.of("src/test/java"))) {
            files.map(f -> f.getFileName().toString()).filter(f -> f.endsWith("Test.java"))
                .forEach(f -> there.add(f.substring(0, f.length() - ".java".length())));
        }
        Set<String> named = new TreeSet<>();
        Matcher name = Pattern.compile("`(\\w+Test)`").matcher(page);
        while (name.find()) named.add(name.group(1));
        Due.must("each test is named, and no other", named.equals(there));
    }

    private static int[] numbers(String with) {
        List<Integer> numbers = new ArrayList<>();
        for (String one : with.isEmpty() ? new String[0] : with.split(", ")) {
            numbers.add(one.startsWith("'") ? one.charAt(1) : Integer.parseInt(one));
        }
        return numbers.stream().mapToInt(Integer::intValue).toArray();
    }

    private static Set<String> face() {
        Set<String> names = new TreeSet<>();
        for (Method m : LongestPast.class.getDeclaredMethods()) {
            if (Modifier.isPublic(m.getModifiers())) names.add(m.getName());
        }
        return names;
    }

    private static int parameters(String name) {
        for (Method m : LongestPast.class.getDeclaredMethods()) {
            if (m.getName().equals(name)) return m.getParameterCount();
        }
        return -1;
    }
}
