import java.lang.reflect.Method;
import java.util.ArrayList;
import java.util.Arrays;
import java.util.Comparator;
import java.util.List;
import java.util.Random;

/** Runs of calls drawn from fixed seeds, each answer of NeckRider held against the Model's. */
final class RandomRuns {
    private static final List<String> SEARCHES =
        List.of("rid", "ways", "plan", "wine", "bend", "bent", "dam", "dams");
    private static final int[] ODD_ONES = {-1, -2, 12, 13, 99, 100, 101, 999, 1000, 2000000000,
        2000000001, Integer.MAX_VALUE, Integer.MIN_VALUE, 5, 7, 60, 61, 255, 256, 65536};

    private final Random random;
    private final Method[] methods;
    private NeckRider x;
    private Model y;
    private final StringBuilder calls = new StringBuilder();
    private boolean broken = false;

    private RandomRuns(long seed) {
        random = new Random(seed);
        methods = Arrays.stream(NeckRider.class.getDeclaredMethods())
            .filter(m -> java.lang.reflect.Modifier.isPublic(m.getModifiers()))
            .sorted(Comparator.comparing(Method::getName)).toArray(Method[]::new);
    }

    static void run(int first, int runs) {
        int thrown = 0;
        int searched = 0;
        for (int i = first; i < first + runs; i++) {
            RandomRuns one = new RandomRuns(i);
            one.live();
            if (one.x.rid() >= 0) thrown++;
            if (one.y.widest > 20) searched++;
        }
        // Runs in which nothing happens would show nothing.
        Check.holds("some random isles have plans", runs < 200 || thrown > runs / 20);
        Check.holds("some random searches are wide", runs < 200 || searched > runs / 50);
    }

    private int below(int n) {
        return random.nextInt(n);
    }

    private void live() {
        x = new NeckRider();
        y = new Model();
        int length = 40 + below(120);
        for (int i = 0; i < length && !broken; i++) {
            if (i == 0 && below(10) > 0 || below(60) == 0) {
                tell(Isles.text(random));
            } else if (below(4) == 0) {
                usualAct();
            } else {
                anyCall();
            }
        }
        for (Method m : methods) {
            if (!broken && m.getParameterCount() == 0 && !m.getName().equals("isle")) call(m.getName());
        }
        if (below(4) == 0) sweep();
    }

    /** Every hour, bearer, place of the ride once. */
    private void sweep() {
        for (int h = 0; h <= 13 && !broken; h++) {
            for (String name : new String[] {"at", "on", "weighs", "does", "drunk", "left", "plan"}) {
                call(name, h);
            }
            for (int i = 0; i < 5; i++) {
                call("tired", i, h);
                call("fruit", i, h);
            }
        }
        for (int i = 0; i < 7 && !broken; i++) {
            for (String name : new String[] {"carries", "comes", "stays", "peak", "from", "reach",
                "ripens", "bent", "dam", "needs", "steers", "beside"}) {
                call(name, i);
            }
        }
    }

    private void tell(String text) {
        if (below(4) == 0) text = Isles.harmed(text, random);
        if (text.length() > 800) text = text.substring(0, 800);
        int had = x.count(10);
        int[] n = new int[5];
        for (int i = 0; i < text.length(); i += 20) {
            for (int k = 0; k < 20; k++) {
                int sign = i + k < text.length() ? text.charAt(i + k) : ' ';
                n[k / 4] = n[k / 4] << 8 | sign;
            }
            call("feed", n[0], n[1], n[2], n[3], n[4]);
        }
        if (below(8) > 0) call("end", Math.min(had + text.length(), 800));
        call("isle");
        call("fault", 0);
        call("fault", 1);
    }

    private void usualAct() {
        int hour = below(8);
        switch (below(7)) {
            case 0 -> actLikePlan();
            case 1 -> call("offer", hour);
            case 2 -> call("carry", hour, below(5));
            case 3 -> call("toss", hour);
            case 4 -> seeRow();
            case 5 -> call(below(2) == 0 ? "image" : "back", below(3));
            default -> call(below(5) == 0 ? "anew" : "undo");
        }
    }

    /** The first hours of the plan, so that acts work. */
    private void actLikePlan() {
        call("anew");
        if (!cheap()) return;
        int hours = below(13);
        for (int h = 0; h < hours; h++) {
            int act = (int) call("plan", h);
            if (act == 1) call("offer", h);
            if (act == 2) call("toss", h);
            if (act >= 10) call("carry", h, act - 10);
        }
    }

    /** A row that tells what is left on some trees at some hour of a ride. */
    private void seeRow() {
        int trees = x.count(5);
        int hours = x.count(1);
        int pairs = below(Math.max(1, trees + 1));
        int slot = below(4);
        call("row", slot, below(4), 2 * pairs);
        int hour = below(hours + 1);
        for (int i = 0; i < pairs; i++) {
            int tree = below(Math.max(trees, 1));
            call("write", slot, 2 * i, tree);
            call("write", slot, 2 * i + 1, Math.max(0, x.fruit(tree, hour)));
        }
        for (String name : new String[] {"fits", "rode", "began", "ask", "leaves"}) call(name, slot);
    }

    /** Whether the slow model can afford a search. */
    private boolean cheap() {
        return x.count(1) <= 8 || x.count(1) <= 10 && x.count(4) <= 7;
    }

    private void anyCall() {
        Method m = methods[below(methods.length)];
        String name = m.getName();
        if (name.equals("isle") && below(4) > 0 || SEARCHES.contains(name) && !cheap()) return;
        long[] arguments = new long[m.getParameterCount()];
        for (int i = 0; i < arguments.length; i++) arguments[i] = argument(name, i);
        call(name, arguments);
    }

    private long argument(String name, int i) {
        if (below(12) == 0) return ODD_ONES[below(ODD_ONES.length)];
        switch (name) {
            case "rests": return below(2) == 0 ? below(4) : below(100);
            case "signs": return i == 0 ? 1 + below(9) : below(3) == 0 ? below(1000) : below(12);
            case "asked": case "trust": return i == 0 ? 1 + below(99) : below(i == 1 ? 20 : 11);
            case "sure": return below(101);
            case "drawn": case "luck": return i == 0 ? random.nextInt(Integer.MAX_VALUE) : below(21);
            case "end": return below(850);
            case "row": return i == 2 ? below(64) - 2 : below(4);
            case "write": return i == 2 ? random.nextLong() >> below(64) : below(6);
            case "paste": return i == 0 || i == 2 ? below(4) : below(6);
            case "count": return below(13);
            case "fault": case "tree": case "vine": case "bearer": case "share": return below(4);
            default: return below(8);
        }
    }

    private long call(String name, long... arguments) {
        if (broken) return -1;
        try {
            long got = invoke(x, find(NeckRider.class, name), arguments);
            long want = invoke(y, find(Model.class, name), arguments);
            String told = name + Arrays.toString(arguments);
            calls.append(told).append('=').append(got).append('\n');
            if (got != want) {
                broken = true;
                System.out.println("--- the run so far:\n" + calls);
            }
            Check.due(told, got, want);
            return got;
        } catch (ReflectiveOperationException e) {
            throw new IllegalStateException(name + Arrays.toString(arguments) + "\n" + calls, e);
        }
    }

    private Method find(Class<?> type, String name) {
        List<Method> found = new ArrayList<>();
        for (Method m : type == NeckRider.class ? methods : MODEL_METHODS) {
            if (m.getName().equals(name)) found.add(m);
        }
        if (found.size() != 1) throw new IllegalStateException(type + " " + name + " " + found);
        return found.get(0);
    }

    private static final Method[] MODEL_METHODS = Arrays.stream(Model.class.getDeclaredMethods())
        .filter(m -> !java.lang.reflect.Modifier.isStatic(m.getModifiers())
            && !java.lang.reflect.Modifier.isPrivate(m.getModifiers()))
        .toArray(Method[]::new);

    private static long invoke(Object on, Method m, long[] arguments)
        throws ReflectiveOperationException {
        Class<?>[] types = m.getParameterTypes();
        Object[] boxed = new Object[types.length];
        for (int i = 0; i < types.length; i++) {
            if (types[i] == long.class) boxed[i] = arguments[i];
            else boxed[i] = (int) arguments[i];
        }
        return ((Number) m.invoke(on, boxed)).longValue();
    }
}
