import java.math.BigInteger;

/** Promises 52 to 57, 63 and 64 at their bounds, and throughout them. */
final class SumsBounds {
    private static final String HOURS = "isle places 2 hours 12 weight 1 odds @;tree at 0 fruit A;"
        + "tree at 0 fruit B;bearer at 0 strength 1;";

    private SumsBounds() { }

    static void run() {
        rests();
        restsThroughout();
        signs();
        signsThroughout();
        asked();
        askedThroughout();
        trust();
        trustThroughout();
        chance();
        sure();
        drawn();
        drawnByHand();
        luck();
    }

    /** 52: "-2: there is no such worth, burden (0 .. 99)". */
    private static void rests() {
        NeckRider x = new NeckRider();
        for (int i : new int[] {0, 1, 50, 99}) {
            Bounds.of("52: worth", 0, 99, -2, worth -> x.rests(worth, i));
            Bounds.of("52: burden", 0, 99, -2, burden -> x.rests(i, burden));
        }
        for (int i : Bounds.beyond(0, 99)) Check.due("52: neither", x.rests(i, i), -2);
        // By hand: eats is as good as sleeps at 1; walks as good as lies at 2, asleep at 2 and 3.
        int[][] due = {{4, 4, 12, 12, 8, 8}, {5, 5, 13, 12, 8, 8}, {1, 1, 9, 8, 8, 8}};
        for (int worth = 0; worth < 3; worth++) {
            for (int burden = 0; burden < 6; burden++) {
                Check.due("52: " + worth + " " + burden, x.rests(worth, burden), due[worth][burden]);
            }
        }
        Check.due("52: 99 0", x.rests(99, 0), 1);
        Check.due("52: 0 99", x.rests(0, 99), 8);
        Check.due("52: 99 99", x.rests(99, 99), 8);
    }

    private static void restsThroughout() {
        NeckRider x = Check.told(IsleTest.SQUARE);
        Model y = new Model();
        int wrong = 0;
        for (int worth = -2; worth < 102; worth++) {
            for (int burden = -2; burden < 102; burden++) {
                if (x.rests(worth, burden) != y.rests(worth, burden)) wrong++;
            }
        }
        Check.due("52: of all worths and burdens", wrong, 0);
    }

    /** 53: "words of k (1 .. 9) signs", "n (0 .. 999)", "known, 0 .. 999", "length (1 .. 9)". */
    private static void signs() {
        NeckRider x = new NeckRider();
        for (int i : new int[] {0, 1, 500, 999}) {
            Bounds.of("53: k", 1, 9, -2, k -> x.signs(k, i, 999 - i));
            Bounds.of("53: n", 0, 999, -2, n -> x.signs(2, n, i));
            Bounds.of("53: known", 0, 999, -2, known -> x.signs(2, i, known));
        }
        Check.due("53: one sign, one word of each length", x.signs(1, 1, 0), 1);
        Check.due("53: one word, known", x.signs(1, 1, 1), -1);
        Check.due("53: one word, two of them known", x.signs(1, 0, 2), 1);
        Check.due("53: one sign, two words", x.signs(1, 2, 0), -1);
        Check.due("53: none of them is needed", x.signs(1, 0, 999), 1);
        Check.due("53: none of them is needed", x.signs(9, 0, 0), 1);
        Check.due("53: 512 of 9 signs", x.signs(2, 512, 0), 9);
        Check.due("53: 513 of them", x.signs(2, 513, 0), -1);
        Check.due("53: 512 and one known", x.signs(2, 512, 1), -1);
        Check.due("53: 511 and one known", x.signs(2, 511, 1), 9);
        Check.due("53: all known", x.signs(2, 1, 512), -1);
        Check.due("53: all but one known", x.signs(2, 1, 511), 9);
        Check.due("53: 3 3 3 3 3 3 3 is 2187", x.signs(3, 999, 999), 7);
        Check.due("53: 9 of one", x.signs(9, 9, 0), 1);
        Check.due("53: 10 of two", x.signs(9, 10, 0), 2);
        Check.due("53: 9 9 9 is 729", x.signs(9, 729, 0), 3);
        Check.due("53: and one more", x.signs(9, 730, 0), 4);
        Check.due("53: the most of all", x.signs(9, 999, 999), 4);
    }

    private static void signsThroughout() {
        NeckRider x = new NeckRider();
        int wrong = 0;
        for (int k = 1; k <= 9; k++) {
            for (int n = 0; n < 1000; n++) {
                for (int known = 0; known < 1000; known += n < 3 || n > 996 ? 1 : 7) {
                    long words = 1;
                    int due = -1;
                    for (int length = 1; length <= 9 && due < 0; length++) {
                        words *= k;
                        if (words - Math.min(words, known) >= n) due = length;
                    }
                    if (x.signs(k, n, known) != due) wrong++;
                }
            }
        }
        Check.due("53: of all k and n", wrong, 0);
    }

    /** 54: "n (1 .. 99)", "r (0 .. n)", "p (0 .. 10)"; "NONE: nobody asks". */
    private static void asked() {
        NeckRider x = new NeckRider();
        for (int what = 0; what <= 1; what++) {
            int w = what;
            Bounds.of("54: n", 1, 99, -2, n -> x.asked(n, 1, 5, w));
            Bounds.of("54: n", 1, 99, -2, n -> x.asked(n, 0, 0, w));
            for (int i : new int[] {1, 2, 98, 99}) {
                Bounds.of("54: r of " + i, 0, i, -2, r -> x.asked(i, r, 5, w));
                Bounds.of("54: r of " + i, 0, i, -2, r -> x.asked(i, r, 0, w));
                Bounds.of("54: p of " + i, 0, 10, -2, p -> x.asked(i, 0, p, w));
                Bounds.of("54: p of " + i, 0, 10, -2, p -> x.asked(i, i, p, w));
                Check.due("54: nobody asks", x.asked(i, 0, 0, w), -1);
                Check.due("54: riders alone ask", x.asked(i, 1, 0, w), 1);
                Check.due("54: others alone ask", x.asked(i, 0, 1, w), w);
                Check.due("54: none such, though nobody asks", x.asked(i, 0, 0, 2), -2);
            }
        }
        Bounds.of("54: what", 0, 1, -2, what -> x.asked(9, 3, 5, what));
        Bounds.of("54: what", 0, 1, -2, what -> x.asked(9, 0, 0, what));
        Check.due("54: 980 of 981, above", x.asked(99, 98, 1, 0), 980);
        Check.due("54: 980 of 981, below", x.asked(99, 98, 1, 1), 981);
    }

    private static void askedThroughout() {
        NeckRider x = new NeckRider();
        Model y = new Model();
        int wrong = 0;
        for (int n = 1; n <= 99; n++) {
            for (int r = -1; r <= n + 1; r++) {
                for (int p = -1; p <= 11; p++) {
                    int above = x.asked(n, r, p, 0);
                    int below = x.asked(n, r, p, 1);
                    if (above != y.asked(n, r, p, 0) || below != y.asked(n, r, p, 1)) wrong++;
                    if (above >= 0 && gcd(above, below) != 1) wrong++;
                }
            }
        }
        Check.due("54: of all n, r and p, in lowest terms", wrong, 0);
    }

    private static int gcd(int a, int b) {
        return BigInteger.valueOf(a).gcd(BigInteger.valueOf(b)).intValue();
    }

    /** 55: "q (0 .. 100) in a hundred at most (if nobody asks, they are 0)". */
    private static void trust() {
        NeckRider x = new NeckRider();
        for (int i : new int[] {0, 5, 10}) {
            Bounds.of("55: n", 1, 99, -2, n -> x.trust(n, i, 50));
            Bounds.of("55: q", 0, 100, -2, q -> x.trust(9, i, q));
        }
        Bounds.of("55: p", 0, 10, -2, p -> x.trust(99, p, 0));
        Bounds.of("55: p", 0, 10, -2, p -> x.trust(1, p, 100));
        for (int n : new int[] {1, 50, 99}) {
            for (int p = 0; p <= 10; p++) {
                Check.due("55: a hundred in a hundred", x.trust(n, p, 100), n);
                Check.due("55: none in a hundred", x.trust(n, p, 0), 0);
            }
            Check.due("55: if nobody asks, they are 0", x.trust(n, 0, 99), 0);
        }
        Check.due("55: just 50", x.trust(10, 10, 50), 5);
        Check.due("55: just below", x.trust(10, 10, 49), 4);
        // 10 r in 10 r + 5 (9 - r): of 3 it is 30 / 60, of 4 40 / 65.
        Check.due("55: half of them", x.trust(9, 5, 50), 3);
        Check.due("55: a little less", x.trust(9, 5, 49), 2);
        Check.due("55: 61 in a hundred are not enough", x.trust(9, 5, 61), 3);
        Check.due("55: 62 are", x.trust(9, 5, 62), 4);
    }

    private static void trustThroughout() {
        NeckRider x = new NeckRider();
        Model y = new Model();
        int wrong = 0;
        for (int n = 0; n <= 100; n++) {
            for (int p = -1; p <= 11; p++) {
                for (int q = -1; q <= 101; q++) if (x.trust(n, p, q) != y.trust(n, p, q)) wrong++;
            }
        }
        Check.due("55: of all n, p and q", wrong, 0);
    }

    /** An ISLE of so many meals, with odds. */
    private static NeckRider meals(int meals, int odds) {
        return Check.told(HOURS.replace("@", "" + odds).replace("A", "" + Math.min(meals, 9))
            .replace("B", "" + Math.max(meals - 9, 0)));
    }

    /** 56: "above, below", by 0 .. 12 meals and odds 0 .. 10. */
    private static void chance() {
        for (int meals = 0; meals <= 12; meals++) {
            for (int odds = 0; odds <= 10; odds++) {
                NeckRider x = meals(meals, odds);
                BigInteger above = BigInteger.valueOf(10 - odds).pow(meals);
                BigInteger below = BigInteger.TEN.pow(meals);
                BigInteger by = above.gcd(below);
                String what = meals + " meals, odds " + odds;
                Check.due("22: " + what, x.eats(), meals);
                Check.due("56: above, " + what, x.chance(0), above.divide(by).longValueExact());
                Check.due("56: below, " + what, x.chance(1), below.divide(by).longValueExact());
            }
        }
        NeckRider x = meals(12, 3);
        Bounds.of("56: what", 0, 1, -2, x::chance);
        Bounds.none("56: no ISLE", -2, new NeckRider()::chance);
        // OVER otherwise: no meal, no chance to choke.
        Check.tell(x, RideBounds.STEP.replace("odds 0", "odds 10").replace("strength 2", "strength 1"));
        Check.due("56: dropped, above", x.chance(0), 1);
        Check.due("56: dropped, below", x.chance(1), 1);
    }

    /** 57: "The last HOUR (0 .. hours) at whose beginning that is p in a hundred at least". */
    private static void sure() {
        for (int meals = 0; meals <= 12; meals++) {
            for (int odds = 0; odds <= 10; odds++) {
                NeckRider x = meals(meals, odds);
                for (int p = 0; p <= 100; p++) {
                    int due = 0;
                    for (int h = 0; h <= 12; h++) {
                        int eaten = Math.min(h, meals);
                        BigInteger above = BigInteger.valueOf(10 - odds).pow(eaten);
                        BigInteger least = BigInteger.TEN.pow(eaten).multiply(BigInteger.valueOf(p));
                        if (above.multiply(BigInteger.valueOf(100)).compareTo(least) >= 0) due = h;
                    }
                    Check.due("57: " + meals + " meals, odds " + odds + ", p " + p, x.sure(p), due);
                }
                Bounds.of("57: p", 0, 100, -2, x::sure);
            }
        }
        Check.due("57: at least, 81 of 100", meals(12, 1).sure(81), 2);
        Check.due("57: 82 of 100", meals(12, 1).sure(82), 1);
        Check.due("57: at HOUR 0 it is sure", meals(12, 1).sure(100), 0);
        Bounds.none("57: no ISLE", -2, new NeckRider()::sure);
        Bounds.of("57: p of the least ISLE", 0, 100, -2, Check.told(Bounds.BARE)::sure);
    }

    /** 63: "a seed (0 .. 2,000,000,000), what 0 .. 2". */
    private static void drawn() {
        NeckRider x = meals(12, 5);
        for (int what = 0; what <= 2; what++) {
            int w = what;
            Bounds.of("63: seed", 0, 2000000000, -2, seed -> x.drawn(seed, w));
        }
        for (int seed : new int[] {0, 1, 1999999999, 2000000000}) {
            Bounds.of("63: what", 0, 2, -2, what -> x.drawn(seed, what));
        }
        Bounds.none("63: no ISLE", -2, seed -> new NeckRider().drawn(seed, 0));
        Bounds.none("63: no ISLE", -2, what -> new NeckRider().drawn(0, what));
        for (int seed : new int[] {0, 7, 2000000000}) {
            NeckRider never = meals(12, 0);
            Check.due("63: odds 0, in none", never.drawn(seed, 0), -1);
            Check.due("63: odds 0, not choked", never.drawn(seed, 1), 0);
            Check.due("63: odds 0, a draw each", never.drawn(seed, 2), 12);
            NeckRider always = meals(12, 10);
            Check.due("63: odds 10, in HOUR 0", always.drawn(seed, 0), 0);
            Check.due("63: odds 10, choked", always.drawn(seed, 1), 1);
            Check.due("63: odds 10, one draw", always.drawn(seed, 2), 1);
            NeckRider hungry = meals(0, 10);
            Check.due("63: no meals, in none", hungry.drawn(seed, 0), -1);
            Check.due("63: no meals, not choked", hungry.drawn(seed, 1), 0);
            Check.due("63: no meals, no draws", hungry.drawn(seed, 2), 0);
            NeckRider last = Check.told(RideBounds.LAST);
            Check.due("63: dropped in the last HOUR", last.drawn(seed, 0), 11);
            Check.due("63: dropped, not choked", last.drawn(seed, 1), 0);
            Check.due("63: dropped, eleven draws", last.drawn(seed, 2), 11);
        }
    }

    /** VIII: the draws of a seed by long numbers, none of which is above 2 to the 63rd. */
    private static void drawnByHand() {
        for (int odds = 0; odds <= 10; odds++) {
            NeckRider x = meals(12, odds);
            for (int seed : new int[] {0, 1, 2, 3, 65535, 65536, 1000000000, 1999999998, 1999999999,
                2000000000}) {
                BigInteger n = BigInteger.valueOf(seed);
                int hour = -1;
                int draws = 0;
                while (hour < 0 && draws < 12) {
                    n = n.multiply(BigInteger.valueOf(1103515245)).add(BigInteger.valueOf(12345))
                        .mod(BigInteger.valueOf(2147483648L));
                    int draw = n.intValueExact() / 65536 % 10;
                    if (draw < odds) hour = draws;
                    draws++;
                }
                Check.due("63: hour of " + seed, x.drawn(seed, 0), hour);
                Check.due("63: chokes of " + seed, x.drawn(seed, 1), hour < 0 ? 0 : 1);
                Check.due("63: draws of " + seed, x.drawn(seed, 2), draws);
            }
        }
    }

    /** 64: "Of n (1 .. 20) such from seeds, the seed and 1, ..". */
    private static void luck() {
        NeckRider x = meals(3, 2);
        for (int n : new int[] {1, 10, 20}) {
            Bounds.of("64: seed", 0, 2000000000, -2, seed -> x.luck(seed, n));
        }
        for (int seed : new int[] {0, 1, 1999999999, 2000000000}) {
            Bounds.of("64: n", 1, 20, -2, n -> x.luck(seed, n));
        }
        for (int seed : new int[] {0, 17, 1999999980}) {
            int sum = 0;
            for (int n = 1; n <= 20; n++) {
                sum += x.drawn(seed + n - 1, 1);
                Check.due("64: " + n + " from " + seed, x.luck(seed, n), sum);
            }
            Check.holds("64: some choke, some do not", sum > 0 && sum < 20);
        }
        // The last seeds are beyond those of drawn(), and so are drawn here by long numbers.
        int sum = 0;
        for (int n = 1; n <= 20; n++) {
            long seed = 2000000000L + n - 1;
            boolean chokes = false;
            for (int meal = 0; meal < 3; meal++) {
                seed = (1103515245L * seed + 12345L) % 2147483648L;
                chokes |= seed / 65536 % 10 < 2;
            }
            if (chokes) sum++;
            Check.due("64: " + n + " from 2000000000", x.luck(2000000000, n), sum);
        }
        for (int n = 1; n <= 20; n++) {
            Check.due("64: odds 0", meals(12, 0).luck(n, n), 0);
            Check.due("64: odds 10", meals(12, 10).luck(n, n), n);
            Check.due("64: no meals", meals(0, 10).luck(n, n), 0);
        }
        Bounds.none("64: no ISLE", -2, seed -> new NeckRider().luck(seed, 1));
        Bounds.none("64: no ISLE", -2, n -> new NeckRider().luck(0, n));
    }
}
