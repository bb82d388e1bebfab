import java.util.LinkedHashSet;
import java.util.Set;
import java.util.function.LongSupplier;

/** Numbers at and beyond bounds, and refused calls with what stays as it was. */
final class Bounds {
    static final int LEAST = Integer.MIN_VALUE;
    static final int MOST = Integer.MAX_VALUE;

    /** All that a text can have, as much as can be of each, at the ends of their bounds. */
    static final String FULL = "isle places 7 hours 12 weight 20 odds 10;"
        + "path 0 to 1;path 0 to 2;path 0 to 3;path 0 to 4;path 0 to 5;path 0 to 6;path 1 to 2;"
        + "path 2 to 3;path 3 to 4;path 6 to 5;"
        + "tree at 2 fruit 9;tree at 3 fruit 0;tree at 0 fruit 9;tree at 5 fruit 1;tree at 6 fruit 8;"
        + "vine at 0 ripe 12;vine at 3 ripe 0;vine at 6 ripe 11;"
        + "bearer at 0 strength 99;bearer at 6 strength 1;bearer at 2 strength 50;"
        + "bearer at 6 strength 98;bearer at 1 strength 2;"
        + "brook at 0;brook at 1;brook at 2;brook at 3;brook at 4;brook at 5;brook at 6;";
    /** As little as a text can tell: no path, tree, vine, brook, bearer. */
    static final String BARE = "isle places 2 hours 1 weight 1 odds 0;";

    interface Ask {
        long of(int i);
    }

    private Bounds() { }

    /** From least to most no answer is the refusal; a step beyond, and far beyond, each is. */
    static void of(String what, int least, int most, long refusal, Ask ask) {
        for (int i : within(least, most)) {
            Check.holds(what + " may be " + i, ask.of(i) != refusal);
        }
        for (int i : beyond(least, most)) {
            Check.due(what + " may not be " + i, ask.of(i), refusal);
        }
    }

    /** There is not one such. */
    static void none(String what, long refusal, Ask ask) {
        for (int i : beyond(0, -1)) Check.due(what + " of none, " + i, ask.of(i), refusal);
    }

    static Set<Integer> within(int least, int most) {
        Set<Integer> all = new LinkedHashSet<>();
        for (int i = 0; i <= Math.min(most - least, 20); i++) {
            all.add(least + i);
            all.add(most - i);
        }
        return all;
    }

    static Set<Integer> beyond(int least, int most) {
        int[] far = {least - 1, least - 2, most + 1, most + 2, LEAST, LEAST + 1, LEAST + least,
            LEAST + most, MOST, MOST - 1, -1, 8, 16, 32, 64, 100, 128, 256, 65536, 65536 + least,
            1 << 30, (1 << 30) + most, -32, -64, -256, -65536, -(1 << 30), 2000000001};
        Set<Integer> all = new LinkedHashSet<>();
        for (int i : far) {
            if (i < least || i > most) all.add(i);
        }
        return all;
    }

    /** The call is answered so, and all that can be asked is as it was. */
    static void refused(String what, NeckRider x, long answer, LongSupplier call) {
        String before = State.of(x);
        Check.due(what, call.getAsLong(), answer);
        State.same(what + ": all stays", State.of(x), before);
    }

    /** As the Model answers, the plans too if it can afford them. */
    static void asTheModel(String text, boolean plans) {
        NeckRider x = new NeckRider();
        Model y = new Model();
        int[] n = new int[5];
        for (int i = 0; i < text.length(); i += 20) {
            for (int k = 0; k < 20; k++) {
                n[k / 4] = n[k / 4] << 8 | (i + k < text.length() ? text.charAt(i + k) : ' ');
            }
            x.feed(n[0], n[1], n[2], n[3], n[4]);
            y.feed(n[0], n[1], n[2], n[3], n[4]);
        }
        Check.due("4: lines of " + text, x.isle(), y.isle());
        if (plans) State.same("model of " + text, State.ofIsle(x), State.ofIsle(y));
        else State.same("model of " + text, State.ofRide(x), State.ofRide(y));
    }
}
