import java.io.IOException;
import java.lang.reflect.Method;
import java.nio.charset.StandardCharsets;
import java.nio.file.Files;
import java.nio.file.Path;
import java.util.Set;
import java.util.TreeSet;
import java.util.regex.Matcher;
import java.util.regex.Pattern;

/** README.md: its example answers as it says, and it names every call. */
final class ReadmeTest {
    private static final Pattern ROW =
        Pattern.compile("(?m)^x\\.(\\w+)\\(([^)]*)\\);\\s*// (-?\\d+)\\b");

    private ReadmeTest() { }

    static void run(String file) {
        try {
            String readme = Files.readString(Path.of(file), StandardCharsets.UTF_8);
            example(readme);
            names(readme);
        } catch (IOException e) {
            Check.holds("README.md can be read: " + e, false);
        }
    }

    private static void example(String readme) {
        Matcher told = Pattern.compile("String text = ([^;]*;[^=]*?\");").matcher(readme);
        Check.holds("README.md has a text", told.find());
        StringBuilder text = new StringBuilder();
        Matcher part = Pattern.compile("\"([^\"]*)\"").matcher(told.group(1));
        while (part.find()) text.append(part.group(1));
        NeckRider x = new NeckRider();
        Check.feed(x, text.toString());
        Matcher row = ROW.matcher(readme);
        int rows = 0;
        while (row.find()) {
            rows++;
            Check.due("README.md " + row.group().split(";")[0], answer(x, row), Long.parseLong(row.group(3)));
        }
        Check.holds("README.md has rows", rows >= 20);
    }

    private static long answer(NeckRider x, Matcher row) {
        String[] words = row.group(2).isEmpty() ? new String[0] : row.group(2).split(", ");
        for (Method m : NeckRider.class.getMethods()) {
            if (!m.getName().equals(row.group(1)) || m.getParameterCount() != words.length) continue;
            if (m.getDeclaringClass() != NeckRider.class) continue;
            Object[] arguments = new Object[words.length];
            for (int i = 0; i < words.length; i++) {
                boolean wide = m.getParameterTypes()[i] == long.class;
                if (wide) arguments[i] = Long.parseLong(words[i]);
                else arguments[i] = Integer.parseInt(words[i]);
            }
            try {
                return ((Number) m.invoke(x, arguments)).longValue();
            } catch (ReflectiveOperationException e) {
                Check.holds("README.md " + row.group() + " threw " + e.getCause(), false);
            }
        }
        Check.holds("README.md " + row.group() + " is a call", false);
        return Long.MIN_VALUE;
    }

    private static void names(String readme) {
        Set<String> missed = new TreeSet<>();
        for (Method m : NeckRider.class.getDeclaredMethods()) {
            if (!java.lang.reflect.Modifier.isPublic(m.getModifiers())) continue;
            if (!Pattern.compile("`" + m.getName() + "\\(").matcher(readme).find()) missed.add(m.getName());
        }
        Check.holds("README.md names every call, not " + missed, missed.isEmpty());
    }
}
