import java.util.ArrayList;
import java.util.List;
import java.util.Map;
import java.util.Set;
import java.util.TreeMap;
import java.util.TreeSet;
import java.util.regex.Matcher;
import java.util.regex.Pattern;

/**
 * Rules 8 and 11: who calls whom, read from the source. Methods of one name in several classes are
 * taken for one, so a chain may be told longer than it is, never shorter.
 */
final class CallDepth {
    private static final int DEEPEST = 8;
    private static final Pattern HEAD =
        Pattern.compile("( {4}| {8})(?:public|private) [^=;]*?\\b(\\w+)\\([^)]*\\) \\{");
    private static final Pattern CALL = Pattern.compile("\\b(\\w+)\\(");

    private final Map<String, Set<String>> calls = new TreeMap<>();

    private CallDepth() { }

    static void run(String bare) {
        chains();
        CallDepth graph = new CallDepth();
        graph.read(bare);
        Check.holds("the methods are read", graph.calls.size() > 120);
        for (String name : graph.calls.keySet()) {
            List<String> chain = graph.longest(name, List.of());
            Check.holds("at most eight deep: " + chain, chain.size() <= DEEPEST);
            Check.holds("no recursion but the hunt's: " + name,
                graph.callsItself(name) == name.equals("seek"));
        }
    }

    /** That what is told of a source is so, by a small one. */
    private static void chains() {
        CallDepth graph = new CallDepth();
        graph.read("    public int a(int n) {\n        return b(n) + c(n);\n    }\n"
            + "    private int b(int n) {\n        if (n > 0) {\n            return c(n);\n        }\n"
            + "        return 0;\n    }\n    private int c(int n) {\n        return n > 0 ? c(n - 1)"
            + " : d();\n    }\n        private static int d() {\n            return 1;\n        }\n");
        Check.due("the longest chain", graph.longest("a", List.of()).size(), 4);
        Check.holds("calls itself", graph.callsItself("c"));
        Check.holds("does not call itself", !graph.callsItself("b"));
    }

    private void read(String bare) {
        Set<String> body = null;
        String indent = "";
        Map<String, Set<String>> met = new TreeMap<>();
        for (String line : bare.split("\n")) {
            Matcher head = HEAD.matcher(line);
            if (head.matches()) {
                indent = head.group(1);
                body = met.computeIfAbsent(head.group(2), name -> new TreeSet<>());
            } else if (body != null && line.equals(indent + "}")) {
                body = null;
            } else if (body != null) {
                Matcher call = CALL.matcher(line);
                while (call.find()) body.add(call.group(1));
            }
        }
        for (Map.Entry<String, Set<String>> one : met.entrySet()) {
            one.getValue().retainAll(met.keySet());
            calls.put(one.getKey(), one.getValue());
        }
    }

    /** The longest chain of calls from a method on in which none stands twice. */
    private List<String> longest(String name, List<String> before) {
        List<String> open = new ArrayList<>(before);
        open.add(name);
        List<String> best = List.of(name);
        for (String called : calls.get(name)) {
            if (open.contains(called)) continue;
            List<String> chain = new ArrayList<>(List.of(name));
            chain.addAll(longest(called, open));
            if (chain.size() > best.size()) best = chain;
        }
        return best;
    }

    private boolean callsItself(String name) {
        Set<String> reached = new TreeSet<>(calls.get(name));
        List<String> next = new ArrayList<>(reached);
        for (int i = 0; i < next.size(); i++) {
            for (String called : calls.get(next.get(i))) {
                if (reached.add(called)) next.add(called);
            }
        }
        return reached.contains(name);
    }
}
