import java.lang.reflect.Method;
import java.lang.reflect.Modifier;

/** Every method with every mix of far arguments, in several states: an answer, never a throw. */
final class EdgeTest {
    private static final int[] FAR = {Integer.MIN_VALUE, -2, -1, 0, 1, 4, 5, 12, 60, 61, 99, 100,
        799, 2000000000, Integer.MAX_VALUE};

    private EdgeTest() { }

    static void run() {
        NeckRider empty = new NeckRider();
        everyCall(empty);
        NeckRider square = Check.told(IsleTest.SQUARE);
        square.offer(2);
        square.image(0);
        Check.seen(square, 0, 0, 1);
        everyCall(square);
        NeckRider riderless = Check.told(RideTest.RIDERLESS);
        everyCall(riderless);
        NeckRider full = Check.told(fullIsle());
        everyCall(full);
        noIsle();
    }

    private static String fullIsle() {
        StringBuilder text = new StringBuilder("isle places 7 hours 12 weight 20 odds 10;");
        for (int i = 0; i < 10; i++) text.append("path ").append(i % 7).append(" to ")
            .append((i * 3 + 1) % 7 == i % 7 ? (i + 1) % 7 : (i * 3 + 1) % 7).append(';');
        for (int i = 0; i < 5; i++) text.append("tree at ").append(i + 2).append(" fruit 9;");
        for (int i = 0; i < 3; i++) text.append("vine at ").append(i).append(" ripe 0;");
        for (int i = 0; i < 5; i++) text.append("bearer at ").append(i).append(" strength 99;");
        return text.append("brook at 6;").toString();
    }

    private static void everyCall(NeckRider x) {
        for (Method m : NeckRider.class.getDeclaredMethods()) {
            if (!Modifier.isPublic(m.getModifiers())) continue;
            int n = m.getParameterCount();
            int mixes = 1;
            for (int i = 0; i < Math.min(n, 3); i++) mixes *= FAR.length;
            for (int mix = 0; mix < mixes; mix++) call(x, m, n, mix);
        }
    }

    private static void call(NeckRider x, Method m, int n, int mix) {
        Object[] arguments = new Object[n];
        int rest = mix;
        for (int i = 0; i < n; i++) {
            int value = FAR[(rest + i / 3 * 7) % FAR.length];
            rest /= FAR.length;
            if (m.getParameterTypes()[i] == long.class) arguments[i] = (long) value << 32;
            else arguments[i] = value;
        }
        try {
            m.invoke(x, arguments);
        } catch (ReflectiveOperationException e) {
            Check.holds(m.getName() + java.util.Arrays.toString(arguments) + " threw "
                + e.getCause(), false);
        }
    }

    /** Whatever is asked of an isle is -2 without one. */
    private static void noIsle() {
        NeckRider x = new NeckRider();
        String[] names = {"tree", "vine", "bearer", "brooks", "way", "beside", "steers", "at", "on",
            "weighs", "tired", "fruit", "does", "drunk", "over", "how", "eats", "carries", "fallen",
            "worst", "share", "comes", "stays", "left", "peak", "hungry", "from", "best", "reach",
            "lone", "ripens", "rid", "ways", "plan", "wine", "bend", "bent", "dam", "dams", "needs",
            "drops", "fits", "rode", "began", "ask", "leaves", "chance", "sure", "offer", "carry",
            "toss", "undo", "anew", "drawn", "luck", "grow"};
        x.row(0, 0, 0);
        for (String name : names) {
            for (Method m : NeckRider.class.getDeclaredMethods()) {
                if (!m.getName().equals(name)) continue;
                Object[] arguments = new Object[m.getParameterCount()];
                java.util.Arrays.fill(arguments, 0);
                try {
                    long got = ((Number) m.invoke(x, arguments)).longValue();
                    Check.due(name + " without an isle", got, -2);
                } catch (ReflectiveOperationException e) {
                    Check.holds(name + " threw " + e.getCause(), false);
                }
            }
        }
    }
}
