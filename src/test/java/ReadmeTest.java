import java.io.IOException;
import java.lang.reflect.Method;
import java.lang.reflect.Modifier;
import java.nio.file.Files;
import java.nio.file.Path;
import java.util.ArrayList;
import java.util.Arrays;
import java.util.List;
import java.util.Map;
import java.util.regex.Matcher;
import java.util.regex.Pattern;

/** README.md: each answer that stands behind a call there is the one that is given, and every call is told. */
public final class ReadmeTest {
    private static final Pattern BLOCK = Pattern.compile("(?ms)^```java\n(.*?)^```");
    private static final Pattern CALL = Pattern.compile("x\\.(\\w+)\\(([-0-9, ]*)\\); +// (\\S+?):?(?: .*)?");
    private static final Pattern TELL = Pattern.compile("tell\\(x, \"(.*)\"\\); +// (\\S+?):?(?: .*)?");
    private static final Pattern ROW = Pattern.compile("(?m)^\\| `(\\w+)\\(([\\w, ]*)\\)` \\|");
    private static final Map<String, Integer> NAMES = Map.of("BeamClocks.BAD", BeamClocks.BAD, "BeamClocks.STATE",
        BeamClocks.STATE, "BeamClocks.FULL", BeamClocks.FULL, "BeamClocks.NONE", BeamClocks.NONE);

    private static BeamClocks x;
    private static int examples;

    public static void main(String[] args) throws IOException, ReflectiveOperationException {
        String page = Files.readString(Path.of("README.md"));
        Matcher block = BLOCK.matcher(page);
        while (block.find()) {
            x = null;
            for (String line : block.group(1).split("\n")) {
                follow(line.trim());
            }
        }
        Due.hold("there are examples: " + examples, examples > 20);
        everyCall(page);
        everyTest(page);
        Due.close("ReadmeTest");
    }

    private static void follow(String line) throws ReflectiveOperationException {
        Matcher call = CALL.matcher(line);
        Matcher tell = TELL.matcher(line);
        if (line.equals("BeamClocks x = new BeamClocks();")) {
            x = new BeamClocks();
        } else if (tell.matches()) {
            be(line, Due.text(x, tell.group(1)), tell.group(2));
        } else if (call.matches()) {
            be(line, answer(call.group(1), call.group(2)), call.group(3));
        } else {
            // Within an object's example every line is a call whose answer is told.
            Due.hold("this line is followed: " + line, x == null);
        }
    }

    private static void be(String line, long got, String told) {
        examples++;
        Due.be("README: " + line, got, NAMES.containsKey(told) ? NAMES.get(told) : Long.parseLong(told));
    }

    private static long answer(String name, String numbers) throws ReflectiveOperationException {
        List<Object> values = new ArrayList<>();
        for (String v : numbers.isEmpty() ? new String[0] : numbers.split(", ")) {
            values.add(Integer.parseInt(v));
        }
        Class<?>[] ints = new Class<?>[values.size()];
        Arrays.fill(ints, int.class);
        return ((Number) BeamClocks.class.getMethod(name, ints).invoke(x, values.toArray())).longValue();
    }

    /** The table has a row for each public method, with as many numbers as it takes, and for no other. */
    private static void everyCall(String page) {
        List<String> told = new ArrayList<>();
        Matcher row = ROW.matcher(page);
        while (row.find()) {
            told.add(row.group(1) + " " + (row.group(2).isEmpty() ? 0 : row.group(2).split(", ").length));
        }
        int calls = 0;
        for (Method m : BeamClocks.class.getDeclaredMethods()) {
            if (Modifier.isPublic(m.getModifiers())) {
                calls++;
                Due.hold("README tells " + m.getName(), told.contains(m.getName() + " " + m.getParameterCount()));
            }
        }
        Due.be("rows of the table", told.size(), calls);
        for (String name : NAMES.keySet()) {
            String plain = name.substring(name.indexOf('.') + 1);
            Due.hold("README tells " + name, page.contains("| `" + plain + "` (" + NAMES.get(name) + ") |"));
        }
    }

    private static void everyTest(String page) throws IOException {
        try (var files = Files.list(Path.of("src/test/java"))) {
            for (Path file : files.toList()) {
                String name = file.getFileName().toString();
                Due.hold("README tells " + name, !name.endsWith("Test.java") || page.contains("`src/test/java/" + name + "`"));
            }
        }
    }
}
