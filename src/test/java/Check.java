/** Counts the answers that were asked for, and tells those that are not as due. */
final class Check {
    private static final int PROMISES = 71;

    private static int passed = 0;
    private static int failed = 0;
    private static final int[] rows = new int[PROMISES + 1];

    private Check() { }

    /** What is asked begins with the number of its promise, where it is of one. */
    static void due(String what, long got, long want) {
        countRow(what);
        if (got == want) {
            passed++;
        } else {
            failed++;
            if (failed <= 200) {
                System.out.println("FAILED " + what + ": answered " + got + ", due is " + want);
            }
        }
    }

    private static void countRow(String what) {
        int promise = 0;
        int i = 0;
        while (i < what.length() && Character.isDigit(what.charAt(i)) && promise <= PROMISES) {
            promise = promise * 10 + what.charAt(i++) - '0';
        }
        if (i > 0 && promise <= PROMISES && what.startsWith(":", i)) rows[promise]++;
    }

    /** Each promise has rows of its own. */
    static void everyPromise() {
        for (int promise = 1; promise <= PROMISES; promise++) {
            holds("promise " + promise + " is tested, by " + rows[promise], rows[promise] >= 10);
        }
    }

    static void holds(String what, boolean is) {
        due(what, is ? 1 : 0, 1);
    }

    static int failed() {
        return failed;
    }

    static String closingLine() {
        return passed + " passed, " + failed + " failed";
    }

    /** Puts a text behind the TAPE, as it is. */
    static void feed(NeckRider x, String text) {
        int had = x.count(10);
        for (int i = 0; i < text.length(); i += 20) {
            int[] n = new int[5];
            for (int k = 0; k < 20; k++) {
                int sign = i + k < text.length() ? text.charAt(i + k) : 0;
                n[k / 4] = n[k / 4] << 8 | sign;
            }
            x.feed(n[0], n[1], n[2], n[3], n[4]);
        }
        x.end(had + text.length());
    }

    /** What isle() answers to a text. */
    static int tell(NeckRider x, String text) {
        feed(x, text);
        return x.isle();
    }

    /** A new object with an isle. */
    static NeckRider told(String text) {
        NeckRider x = new NeckRider();
        if (tell(x, text) < 1) {
            throw new IllegalStateException("a faulty isle in a test: " + x.fault(0) + " at "
                + x.fault(1) + " of " + text);
        }
        return x;
    }

    /** Puts numbers into a SLOT as a row of one byte each. */
    static void seen(NeckRider x, int slot, int... numbers) {
        x.row(slot, 0, numbers.length);
        for (int i = 0; i < numbers.length; i++) {
            x.write(slot, i, numbers[i]);
        }
    }
}
