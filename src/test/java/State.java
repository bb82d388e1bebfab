import java.lang.reflect.Method;
import java.util.HashMap;
import java.util.Map;

/**
 * All that can be asked of an object (NeckRider or Model), as a text: by it a test sees that a
 * refused call changes nothing, and that an isle at a bound is answered as the Model answers it.
 */
final class State {
    /** What is asked, and each argument's first and last number: a step beyond the bounds. */
    private static final String[] OF_THE_ISLE = {"brooks", "over", "how", "eats", "fallen", "worst",
        "hungry", "lone", "beside -1 7", "steers -1 7", "reach -1 7", "comes -1 7", "stays -1 7",
        "at -1 13", "on -1 13", "weighs -1 13", "does -1 13", "drunk -1 13", "left -1 13",
        "carries -1 5", "peak -1 5", "ripens -1 3", "sure 0 100", "chance -1 2", "count 0 9",
        "tree -1 5 -1 2", "vine -1 3 -1 2", "bearer -1 5 -1 2", "way -1 7 -1 7", "tired -1 5 -1 13",
        "fruit -1 5 -1 13", "share -1 5 -1 2", "drawn 0 4 -1 3", "luck 0 2 0 3"};
    /** Asked last of a ride, lest what is tried out for them hides what was left elsewhere. */
    private static final String[] OF_OTHER_RIDES = {"best", "from -1 5", "drops", "needs -1 5"};
    private static final String[] OF_PLANS = {"rid", "ways", "wine", "bend", "dams", "plan -1 13",
        "bent -1 5", "dam -1 7"};
    private static final String[] OF_THE_REST = {"fits -1 4", "rode -1 4", "began -1 4", "ask -1 4",
        "leaves -1 4", "fault -1 2", "count 10 12"};

    private static final Map<String, Method> METHODS = new HashMap<>();

    private State() { }

    /** All of it. */
    static String of(Object x) {
        return told(x, OF_THE_REST) + ofIsle(x);
    }

    /** The ISLE and its acts, without the TAPE, the SLOTS and the latest FAULT. */
    static String ofIsle(Object x) {
        return told(x, OF_THE_ISLE) + told(x, OF_PLANS) + told(x, OF_OTHER_RIDES);
    }

    /** The ISLE and its acts, without plans, which the Model finds slowly. */
    static String ofRide(Object x) {
        return told(x, OF_THE_ISLE) + told(x, OF_OTHER_RIDES);
    }

    /** Tells the first answer that is not the same. */
    static void same(String what, String got, String due) {
        String[] gots = got.split("\n");
        String[] dues = due.split("\n");
        for (int i = 0; i < Math.min(gots.length, dues.length); i++) {
            if (!gots[i].equals(dues[i])) {
                Check.holds(what + ": " + gots[i] + ", due is " + dues[i], false);
                return;
            }
        }
        Check.due(what, gots.length, dues.length);
    }

    private static String told(Object x, String[] asks) {
        StringBuilder text = new StringBuilder();
        for (String ask : asks) {
            String[] part = ask.split(" ");
            int[] bounds = new int[part.length - 1];
            for (int i = 0; i < bounds.length; i++) bounds[i] = Integer.parseInt(part[i + 1]);
            tell(x, part[0], bounds, text);
        }
        return text.toString();
    }

    private static void tell(Object x, String name, int[] bounds, StringBuilder text) {
        if (bounds.length == 0) answer(x, name, text);
        for (int i = 0; bounds.length == 2 && i <= bounds[1] - bounds[0]; i++) {
            answer(x, name, text, bounds[0] + i);
        }
        if (bounds.length < 4) return;
        for (int i = bounds[0]; i <= bounds[1]; i++) {
            for (int k = bounds[2]; k <= bounds[3]; k++) answer(x, name, text, i, k);
        }
    }

    private static void answer(Object x, String name, StringBuilder text, Integer... arguments) {
        text.append(name);
        for (int i : arguments) text.append(' ').append(i);
        try {
            Object got = method(x, name, arguments.length).invoke(x, (Object[]) arguments);
            text.append(" = ").append(got).append('\n');
        } catch (ReflectiveOperationException e) {
            text.append(" threw ").append(e.getCause()).append('\n');
        }
    }

    private static Method method(Object x, String name, int arguments)
        throws ReflectiveOperationException {
        String key = x.getClass().getName() + '.' + name;
        Method m = METHODS.get(key);
        if (m == null) {
            Class<?>[] types = new Class<?>[arguments];
            java.util.Arrays.fill(types, int.class);
            m = x.getClass().getDeclaredMethod(name, types);
            METHODS.put(key, m);
        }
        return m;
    }
}
