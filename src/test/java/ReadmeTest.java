import java.io.IOException;
import java.lang.reflect.Method;
import java.lang.reflect.Modifier;
import java.nio.file.Files;
import java.nio.file.Path;
import java.util.ArrayList;
import java.util.Arrays;
import java.util.List;
import java.util.Set;
import java.util.TreeSet;
import java.util.regex.Matcher;
import java.util.regex.Pattern;
import java.util.stream.Stream;

/** README.md is true of the project: its example answers what stands there, and its tables are whole. */
public final class ReadmeTest {
    private static final Bench BENCH = new Bench();
    private static final Pattern CALL = Pattern.compile("cutter\\.(\\w+)\\((.*?)\\);\\s*// (-?\\w+).*");
    private static final Pattern ROW = Pattern.compile("\\| `(\\w+)[`(].*");

    public static void main(String[] args) throws IOException, ReflectiveOperationException {
        List<String> lines = Files.readAllLines(Path.of("README.md"));
        exampleIsTrue(lines.subList(lines.indexOf("```java") + 1, lines.size()));
        tablesAreWhole(lines);
        BENCH.close();
    }

    private static void exampleIsTrue(List<String> lines) throws ReflectiveOperationException {
        BENCH.due("the example makes a cutter",
                lines.get(0).equals("RequestCutter cutter = new RequestCutter();"), true);
        List<String> calls = lines.subList(1, lines.indexOf("```"));
        BENCH.due("the example has calls", calls.size() > 0, true);
        RequestCutter cutter = new RequestCutter();
        for (String line : calls) {
            Matcher call = CALL.matcher(line);
            boolean readable = call.matches();
            BENCH.due("is a call with its answer: " + line, readable, true);
            if (readable) {
                String got = String.valueOf(answer(cutter, call.group(1), call.group(2)));
                BENCH.due("answers " + got + ": " + line, got.equals(call.group(3)), true);
            }
        }
    }

    private static Object answer(RequestCutter cutter, String name, String numbers)
            throws ReflectiveOperationException {
        List<Object> values = new ArrayList<>();
        for (String number : numbers.isEmpty() ? new String[0] : numbers.split(", ")) {
            values.add(Long.decode(number).intValue());
        }
        Class<?>[] types = new Class<?>[values.size()];
        Arrays.fill(types, int.class);
        return RequestCutter.class.getMethod(name, types).invoke(cutter, values.toArray());
    }

    private static void tablesAreWhole(List<String> lines) throws IOException {
        Set<String> told = new TreeSet<>();
        for (String line : lines) {
            Matcher row = ROW.matcher(line);
            if (row.matches()) {
                told.add(row.group(1));
            }
        }
        Set<String> there = new TreeSet<>();
        for (Method method : RequestCutter.class.getDeclaredMethods()) {
            if (Modifier.isPublic(method.getModifiers())) {
                there.add(method.getName());
            }
        }
        try (Stream<Path> tests = Files.list(Path.of("src/test/java"))) {
            tests.forEach(test -> there.add(test.getFileName().toString().replace(".java", "")));
        }
        BENCH.due("the tables have " + told + ", the project " + there, told.equals(there), true);
    }
}
