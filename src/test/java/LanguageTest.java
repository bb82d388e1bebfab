import java.io.IOException;
import java.lang.reflect.Field;
import java.lang.reflect.Method;
import java.lang.reflect.Modifier;
import java.nio.charset.StandardCharsets;
import java.nio.file.Files;
import java.nio.file.Path;
import java.util.ArrayList;
import java.util.HashSet;
import java.util.List;
import java.util.Set;
import java.util.TreeSet;
import java.util.regex.Matcher;
import java.util.regex.Pattern;

/** The face of the class, the rules of LANGUAGE.md that can be seen from outside, and the room. */
final class LanguageTest {
    private static final String FACE = "feed(int int int int int) end(int) isle() fault(int)"
        + " tree(int int) vine(int int) bearer(int int) brooks() way(int int) beside(int)"
        + " steers(int) at(int) on(int) weighs(int) tired(int int) fruit(int int) does(int)"
        + " drunk(int) over() how() eats() carries(int) fallen() worst() share(int int) comes(int)"
        + " stays(int) left(int) peak(int) hungry() from(int) best() reach(int) lone() ripens(int)"
        + " rid() ways() plan(int) wine() bend() bent(int) dam(int) dams() needs(int) drops()"
        + " fits(int) rode(int) began(int) ask(int) leaves(int) rests(int int) signs(int int int)"
        + " asked(int int int int) trust(int int int) chance(int) sure(int) offer(int)"
        + " carry(int int) toss(int) undo() anew() drawn(int int) luck(int int) grow(int int)"
        + " count(int) image(int) back(int) row(int int int) write(int int long)"
        + " paste(int int int int int)";

    private LanguageTest() { }

    static void run(String file) {
        face();
        members();
        try {
            String source = Files.readString(Path.of(file), StandardCharsets.ISO_8859_1);
            words(bare(source), source);
            methodLengths(bare(source));
            CallDepth.run(bare(source));
        } catch (IOException e) {
            Check.holds("the source " + file + " can be read: " + e, false);
        }
        room();
    }

    private static void face() {
        Set<String> due = new TreeSet<>();
        Matcher m = Pattern.compile("\\w+\\([^)]*\\)").matcher(FACE);
        while (m.find()) due.add(m.group());
        Set<String> has = new TreeSet<>();
        for (Method method : NeckRider.class.getDeclaredMethods()) {
            if (!Modifier.isPublic(method.getModifiers())) continue;
            List<String> types = new ArrayList<>();
            for (Class<?> t : method.getParameterTypes()) types.add(t.getName());
            has.add(method.getName() + "(" + String.join(" ", types) + ")");
            String answer = method.getName().equals("chance") ? "long" : "int";
            Check.holds("answer of " + method, method.getReturnType().getName().equals(answer));
            Check.holds("no static " + method, !Modifier.isStatic(method.getModifiers()));
        }
        Check.due("the face has its 70 methods", due.size(), 70);
        Check.holds("the face is whole: " + has, has.equals(due));
        Check.due("one constructor", NeckRider.class.getDeclaredConstructors().length, 1);
        Check.holds("the class is public and final",
            NeckRider.class.getModifiers() == (Modifier.PUBLIC | Modifier.FINAL));
        for (Field f : NeckRider.class.getDeclaredFields()) {
            boolean hidden = Modifier.isPrivate(f.getModifiers());
            Check.holds("private or NONE: " + f, hidden || f.getName().equals("NONE"));
        }
    }

    private static void members() {
        Set<String> open = new HashSet<>();
        for (Method m : NeckRider.class.getDeclaredMethods()) {
            if (Modifier.isPublic(m.getModifiers())) open.add(m.getName());
        }
        List<Class<?>> all = new ArrayList<>(List.of(NeckRider.class));
        all.addAll(List.of(NeckRider.class.getDeclaredClasses()));
        Check.holds("twelve classes at most", all.size() <= 12);
        for (Class<?> c : all) {
            Check.holds("static: " + c, c == NeckRider.class || Modifier.isStatic(c.getModifiers()));
            int fields = 0;
            for (Field f : c.getDeclaredFields()) {
                boolean fixed = Modifier.isStatic(f.getModifiers());
                if (!fixed) fields++;
                Check.holds("static fields are final: " + f,
                    !fixed || Modifier.isFinal(f.getModifiers()) && !f.getType().isArray());
            }
            Check.holds("twenty fields at most: " + c, fields <= 20);
            for (Method m : c.getDeclaredMethods()) {
                Check.holds("seven parameters at most: " + m, m.getParameterCount() <= 7);
                boolean isFace = c == NeckRider.class && Modifier.isPublic(m.getModifiers());
                Check.holds("of the face, or hidden: " + m,
                    isFace || Modifier.isPrivate(m.getModifiers()) || m.isSynthetic());
                Check.holds("not a name of the face: " + m, isFace || !open.contains(m.getName()));
            }
        }
    }

    /** The source without comments, texts and signs. */
    private static String bare(String source) {
        return source.replaceAll("(?s)/\\*.*?\\*/", " ").replaceAll("//[^\n]*", " ")
            .replaceAll("\"(\\\\.|[^\"\\\\])*\"", "\"\"").replaceAll("'(\\\\.|[^'\\\\])'", "' '");
    }

    private static void words(String bare, String source) {
        String[] banned = {"throw", "throws", "try", "catch", "finally", "synchronized", "assert",
            "import", "package", "transient", "volatile", "native", "protected", "super", "extends",
            "hashCode", "toString", "getClass", "System\\.(?!arraycopy)\\w+", "Thread", "Object",
            "float", "double", "var", "\\w+Exact", "Random", "Override"};
        for (String word : banned) {
            Matcher m = Pattern.compile("\\b" + word + "\\b").matcher(bare);
            Check.holds("no word " + word, !m.find());
        }
        Check.holds("no lambda", !bare.contains("->"));
        Check.holds("no method reference", !bare.contains("::"));
        Check.holds("no annotation", !bare.contains("@"));
        Check.holds("no joined texts", !Pattern.compile("\"\\s*\\+|\\+\\s*\"").matcher(bare).find());
        Check.holds("signs 1 to 127", source.chars().allMatch(c -> c < 128));
        // What is made is made in constructors and fields alone, so no call makes an object.
        Matcher m = Pattern.compile("(?m)^ {8,}(?!private)[^\n]*\\bnew\\b[^\n]*").matcher(bare);
        while (m.find()) {
            String line = m.group().trim();
            Check.holds("made in a constructor: " + line,
                line.matches("\\w+(\\[\\w+])? = new \\w+(\\(\\)|\\[\\w+]);"));
        }
    }

    private static void methodLengths(String bare) {
        int start = 0;
        int number = 0;
        for (String line : bare.split("\n")) {
            number++;
            if (line.matches(" {4,8}(public|private) .*\\) \\{")) start = number;
            if (start > 0 && line.matches(" {4,8}}")) {
                Check.holds("short method at line " + start, number - start <= 60);
                start = 0;
            }
        }
    }

    /** Bytes that a run of the dearest calls makes: nothing that grows with the calls. */
    private static void room() {
        com.sun.management.ThreadMXBean threads =
            (com.sun.management.ThreadMXBean) java.lang.management.ManagementFactory.getThreadMXBean();
        if (!threads.isThreadAllocatedMemorySupported()) return;
        NeckRider x = Check.told(IsleTest.SQUARE);
        Check.seen(x, 0, 0, 1);
        dearCalls(x, 100);
        long thread = Thread.currentThread().getId();
        long before = threads.getThreadAllocatedBytes(thread);
        long sum = dearCalls(x, 500);
        long made = threads.getThreadAllocatedBytes(thread) - before;
        Check.holds("5000 calls make " + made + " bytes, " + sum, made < 10000);
    }

    private static long dearCalls(NeckRider x, int times) {
        long sum = 0;
        for (int i = 0; i < times; i++) {
            x.grow(0, i % 10);
            sum += x.dams() + x.bend() + x.wine() + x.ways() + x.ask(0) + x.needs(0) + x.drops();
            sum += x.offer(2) + x.anew() + x.image(0) + x.back(0) + x.luck(i, 20) + x.isle();
            x.back(0);
        }
        return sum;
    }
}
