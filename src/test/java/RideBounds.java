import java.util.function.IntUnaryOperator;

/** Promises 13 to 31 and 36 at their bounds. */
final class RideBounds {
    /** He eats in each of twelve hours, of the second tree from hour 9 on. */
    static final String MEALS = "isle places 2 hours 12 weight 20 odds 1;tree at 0 fruit 9;"
        + "tree at 0 fruit 9;bearer at 0 strength 1;";
    /** One hour, one path, just as much as he weighs. */
    static final String STEP = "isle places 2 hours 1 weight 2 odds 0;path 0 to 1;"
        + "tree at 1 fruit 1;bearer at 0 strength 2;";
    /** Eleven meals, then a path in the last hour: he weighs 12. */
    static final String LAST = "isle places 2 hours 12 weight 1 odds 0;path 0 to 1;"
        + "tree at 0 fruit 9;tree at 0 fruit 2;tree at 1 fruit 1;bearer at 0 strength 11;";
    /** Each of five bearers falls after one path. */
    static final String FIVE = "isle places 7 hours 12 weight 2 odds 0;path 0 to 1;path 1 to 2;"
        + "path 2 to 3;path 3 to 4;path 4 to 5;path 5 to 6;tree at 6 fruit 1;"
        + "bearer at 0 strength 1;bearer at 1 strength 1;bearer at 2 strength 1;"
        + "bearer at 3 strength 1;bearer at 4 strength 1;";
    /** Wine where he is, from the first hour on. */
    static final String WINE = "isle places 2 hours 12 weight 1 odds 0;path 0 to 1;"
        + "vine at 0 ripe 0;bearer at 0 strength 99;";

    private RideBounds() { }

    static void run() {
        hours();
        things();
        noIsle();
        meals();
        firstHour();
        strength();
        lastHour();
        fiveFall();
        heirs();
        resting();
        drunkHours();
        ripeHours();
        thrownHours();
        neverRides();
        firstOfSeveral();
        moments();
        asTheModel();
    }

    private static void row(String what, IntUnaryOperator call, int... due) {
        for (int i = 0; i < due.length; i++) {
            Check.due(what + " of " + i, call.applyAsInt(i), due[i]);
        }
        for (int i : Bounds.beyond(0, due.length - 1)) {
            Check.due(what + " of " + i, call.applyAsInt(i), -2);
        }
    }

    /** 13 to 19, 29: "an HOUR (0 .. hours)", and "HOURS 0 .. hours less 1" elsewhere. */
    private static void hours() {
        for (int n : new int[] {1, 2, 11, 12}) {
            NeckRider x = Check.told("isle places 2 hours " + n + " weight 1 odds 0;"
                + "tree at 0 fruit 9;bearer at 1 strength 1;");
            Bounds.of("13: an HOUR", 0, n, -2, x::at);
            Bounds.of("14: an HOUR", 0, n, -2, x::on);
            Bounds.of("15: an HOUR", 0, n, -2, x::weighs);
            Bounds.of("16: an HOUR", 0, n, -2, h -> x.tired(0, h));
            Bounds.of("17: an HOUR", 0, n, -2, h -> x.fruit(0, h));
            Bounds.of("18: an HOUR", 0, n - 1, -2, x::does);
            Bounds.of("19: an HOUR", 0, n - 1, -2, x::drunk);
            Bounds.of("29: an HOUR", 0, n, -2, x::left);
        }
    }

    /** 16, 17, 23, 26, 27, 28, 30, 36: "there is none such". */
    private static void things() {
        NeckRider x = Check.told(Bounds.FULL);
        for (int h : new int[] {0, 6, 12}) {
            Bounds.of("16: a BEARER", 0, 4, -2, b -> x.tired(b, h));
            Bounds.of("17: a TREE", 0, 4, -2, t -> x.fruit(t, h));
        }
        Bounds.of("23: a BEARER", 0, 4, -2, x::carries);
        Bounds.of("26: a BEARER", 0, 4, -2, b -> x.share(b, 0));
        Bounds.of("26: a BEARER", 0, 4, -2, b -> x.share(b, 1));
        for (int i = 0; i < 5; i++) {
            int b = i;
            Bounds.of("26: what", 0, 1, -2, what -> x.share(b, what));
        }
        Bounds.of("27: a PLACE", 0, 6, -2, x::comes);
        Bounds.of("28: a PLACE", 0, 6, -2, x::stays);
        Bounds.of("30: a BEARER", 0, 4, -2, x::peak);
        Bounds.of("36: a VINE", 0, 2, -2, x::ripens);
        NeckRider y = Check.told(Bounds.BARE);
        Bounds.none("16: a BEARER", -2, b -> y.tired(b, 0));
        Bounds.none("17: a TREE", -2, t -> y.fruit(t, 0));
        Bounds.none("23: a BEARER", -2, y::carries);
        Bounds.none("26: a BEARER", -2, b -> y.share(b, 0));
        Bounds.of("27: a PLACE", 0, 1, -2, y::comes);
        Bounds.of("28: a PLACE", 0, 1, -2, y::stays);
        Bounds.none("30: a BEARER", -2, y::peak);
        Bounds.none("36: a VINE", -2, y::ripens);
    }

    /** "-2: there is no ISLE", whatever is asked of it. */
    private static void noIsle() {
        NeckRider x = new NeckRider();
        Bounds.none("13: an HOUR", -2, x::at);
        Bounds.none("14: an HOUR", -2, x::on);
        Bounds.none("15: an HOUR", -2, x::weighs);
        Bounds.none("16: an HOUR", -2, h -> x.tired(0, h));
        Bounds.none("17: an HOUR", -2, h -> x.fruit(0, h));
        Bounds.none("18: an HOUR", -2, x::does);
        Bounds.none("19: an HOUR", -2, x::drunk);
        Bounds.none("27: a PLACE", -2, x::comes);
        Bounds.none("28: a PLACE", -2, x::stays);
        Bounds.none("29: an HOUR", -2, x::left);
        int[] got = {x.over(), x.how(), x.eats(), x.fallen(), x.worst(), x.hungry()};
        int[] promise = {20, 21, 22, 24, 25, 31};
        for (int i = 0; i < got.length; i++) Check.due(promise[i] + ": no ISLE", got[i], -2);
    }

    private static void meals() {
        NeckRider x = Check.told(MEALS);
        row("13: at", x::at, 0, 0, 0, 0, 0, 0, 0, 0, 0, 0, 0, 0, 0);
        row("14: on", x::on, 0, 0, 0, 0, 0, 0, 0, 0, 0, 0, 0, 0, 0);
        row("15: weighs", x::weighs, 20, 21, 22, 23, 24, 25, 26, 27, 28, 29, 30, 31, 32);
        row("16: tired", h -> x.tired(0, h), 0, 0, 0, 0, 0, 0, 0, 0, 0, 0, 0, 0, 0);
        row("17: the first such", h -> x.fruit(0, h), 9, 8, 7, 6, 5, 4, 3, 2, 1, 0, 0, 0, 0);
        row("17: then the next", h -> x.fruit(1, h), 9, 9, 9, 9, 9, 9, 9, 9, 9, 9, 8, 7, 6);
        row("18: does", x::does, 2, 2, 2, 2, 2, 2, 2, 2, 2, 2, 2, 2);
        row("29: left", x::left, 18, 17, 16, 15, 14, 13, 12, 11, 10, 9, 8, 7, 6);
        Check.due("20: NONE: in none", x.over(), -1);
        Check.due("21: NONE: it is not OVER", x.how(), -1);
        Check.due("22: in all HOURS", x.eats(), 12);
        row("23: carries", x::carries, 0);
        Check.due("24: nobody falls", x.fallen(), 0);
        Check.due("25: NONE: none", x.worst(), -1);
        Check.due("26: NONE: he is carried none", x.share(0, 0), -1);
        Check.due("26: NONE: he is carried none", x.share(0, 1), -1);
        // There are none such, though he is carried none.
        Bounds.of("26: a BEARER", 0, 0, -2, b -> x.share(b, 0));
        Bounds.of("26: what", 0, 1, -2, what -> x.share(0, what));
        row("27: comes", x::comes, 0, -1);
        row("28: stays", x::stays, 8191, 0);
        row("30: peak", x::peak, 0);
        Check.due("31: NONE: none", x.hungry(), -1);
        // A meal less, and the last hour is a hungry one; none at all, and the first is.
        Check.tell(x, MEALS.replace("fruit 9;tree at 0 fruit 9", "fruit 9;tree at 0 fruit 2"));
        Check.due("31: in the last HOUR", x.hungry(), 11);
        Check.due("18: he stays", x.does(11), 4);
        Check.due("22: eats", x.eats(), 11);
        Check.tell(x, MEALS.replace("fruit 9", "fruit 0"));
        Check.due("31: in HOUR 0", x.hungry(), 0);
        row("18: he stays", x::does, 4, 4, 4, 4, 4, 4, 4, 4, 4, 4, 4, 4);
        row("15: weighs", x::weighs, 20, 20, 20, 20, 20, 20, 20, 20, 20, 20, 20, 20, 20);
        Check.due("22: eats none", x.eats(), 0);
        row("28: stays", x::stays, 8191, 0);
        // No tree at all.
        Check.tell(x, "isle places 2 hours 12 weight 20 odds 0;bearer at 0 strength 1;");
        Check.due("31: no TREE", x.hungry(), 0);
        Check.due("29: left of none", x.left(12), 0);
    }

    /** OVER in HOUR 0, of one HOUR. */
    private static void firstHour() {
        NeckRider x = Check.told(STEP.replace("strength 2", "strength 1"));
        row("13: NONE: it is OVER", x::at, 0, -1);
        row("14: on nobody", x::on, 0, -1);
        row("15: as at its end", x::weighs, 2, 2);
        row("16: tired", h -> x.tired(0, h), 0, 2);
        row("17: fruit", h -> x.fruit(0, h), 1, 1);
        row("18: carried in it", x::does, 3);
        Check.due("20: in HOUR 0", x.over(), 0);
        Check.due("21: 0: dropped", x.how(), 0);
        row("23: carries", x::carries, 1);
        Check.due("24: fallen", x.fallen(), 1);
        Check.due("25: worst", x.worst(), 0);
        Check.due("26: all of it, above", x.share(0, 0), 1);
        Check.due("26: all of it, below", x.share(0, 1), 1);
        row("27: comes", x::comes, 0, -1);
        row("28: stays", x::stays, 1, 0);
        row("30: above his strength", x::peak, 2);
        Check.due("31: not hungry", x.hungry(), -1);
        Check.tell(x, STEP.replace("hours 1", "hours 12").replace("strength 2", "strength 1"));
        row("18: 0: it is OVER ahead of it", x::does, 3, 0, 0, 0, 0, 0, 0, 0, 0, 0, 0, 0);
        row("15: as at its end", x::weighs, 2, 2, 2, 2, 2, 2, 2, 2, 2, 2, 2, 2, 2);
        row("13: nowhere", x::at, 0, -1, -1, -1, -1, -1, -1, -1, -1, -1, -1, -1, -1);
        Check.due("31: OVER, he does not stay", x.hungry(), -1);
    }

    /** III: "is that above his strength, he FALLS". */
    private static void strength() {
        NeckRider x = Check.told(STEP);
        row("13: just his strength", x::at, 0, 1);
        Check.due("24: he does not fall", x.fallen(), 0);
        Check.due("20: not OVER", x.over(), -1);
        row("30: peak", x::peak, 2);
        for (int weight = 1; weight <= 20; weight++) {
            for (int strength = 1; strength <= 21; strength++) {
                Check.tell(x, STEP.replace("weight 2", "weight " + weight)
                    .replace("strength 2", "strength " + strength));
                boolean falls = weight > strength;
                Check.due("24: of " + weight + ", strength " + strength, x.fallen(), falls ? 1 : 0);
                Check.due("20: over", x.over(), falls ? 0 : -1);
                Check.due("16: so much as he weighs", x.tired(0, 1), weight);
            }
        }
    }

    private static void lastHour() {
        NeckRider x = Check.told(LAST);
        row("13: at", x::at, 0, 0, 0, 0, 0, 0, 0, 0, 0, 0, 0, 0, -1);
        row("14: on", x::on, 0, 0, 0, 0, 0, 0, 0, 0, 0, 0, 0, 0, -1);
        row("18: does", x::does, 2, 2, 2, 2, 2, 2, 2, 2, 2, 2, 2, 3);
        row("16: tired", h -> x.tired(0, h), 0, 0, 0, 0, 0, 0, 0, 0, 0, 0, 0, 0, 12);
        Check.due("15: at the end", x.weighs(12), 12);
        Check.due("20: in the last HOUR", x.over(), 11);
        Check.due("21: dropped", x.how(), 0);
        row("28: stays", x::stays, 4095, 0);
        row("30: at the last moment", x::peak, 12);
        Check.tell(x, LAST.replace("strength 11", "strength 12"));
        Check.due("20: his strength is enough", x.over(), -1);
        Check.due("13: there at the last moment", x.at(12), 1);
        row("27: HOURS end ahead of it", x::comes, 0, -1);
        row("28: (0 .. hours)", x::stays, 4095, 4096);
        row("30: at the last moment", x::peak, 12);
        // One hour longer there, and he comes.
        Check.tell(x, LAST.replace("fruit 2", "fruit 1").replace("strength 11", "strength 99"));
        row("27: in the last HOUR", x::comes, 0, 11);
        row("28: stays", x::stays, 2047, 6144);
        Check.due("18: he eats in it", x.does(11), 2);
        Check.due("17: left at the end", x.fruit(2, 12), 0);
    }

    private static void fiveFall() {
        NeckRider x = Check.told(FIVE);
        row("13: at", x::at, 0, 1, 2, 3, 4, -1, -1, -1, -1, -1, -1, -1, -1);
        row("14: on", x::on, 0, 1, 2, 3, 4, -1, -1, -1, -1, -1, -1, -1, -1);
        Check.due("20: over", x.over(), 4);
        Check.due("24: as bits, all", x.fallen(), 31);
        row("23: carries", x::carries, 1, 1, 1, 1, 1);
        Check.due("25: the first of several", x.worst(), 0);
        for (int b = 0; b < 5; b++) {
            Check.due("26: a fifth, above", x.share(b, 0), 1);
            Check.due("26: a fifth, below", x.share(b, 1), 5);
            Check.due("30: peak", x.peak(b), 2);
            for (int h = 0; h <= 12; h++) Check.due("16: tired", x.tired(b, h), h > b ? 2 : 0);
        }
        row("27: comes", x::comes, 0, 1, 2, 3, 4, -1, -1);
        row("28: stays", x::stays, 1, 2, 4, 8, 16, 0, 0);
        // The fifth alone, from its home: bit 4.
        Check.tell(x, FIVE.replace("at 0 strength 1", "at 0 strength 8"));
        Check.due("24: but the first four", x.fallen() & 15, 1);
        Check.due("14: he is taken on at 5? nobody is there", x.over(), 4);
        Check.due("25: who carries most", x.worst(), 0);
        Check.tell(x, FIVE.replace("at 0 strength 1", "at 0 strength 7"));
        Check.due("14: he falls at 4, the fifth carries on", x.on(4), 4);
        Check.due("24: the first and the fifth", x.fallen(), 17);
        Check.due("26: four fifths, above", x.share(0, 0), 4);
        Check.due("26: four fifths, below", x.share(0, 1), 5);
        Check.due("26: lowest terms (0 / 1), above", x.share(3, 0), 0);
        Check.due("26: lowest terms (0 / 1), below", x.share(3, 1), 1);
        Check.due("25: by four to one", x.worst(), 0);
        // Two carry two paths each, then one a single one.
        Check.tell(x, FIVE.replace("strength 1", "strength 2"));
        Check.due("26: two of six, above", x.share(0, 0), 1);
        Check.due("26: two of six, below", x.share(0, 1), 3);
        Check.due("25: the first of three", x.worst(), 0);
        row("23: carries", x::carries, 2, 0, 2, 0, 2);
        Check.tell(x, FIVE.replace("at 4 strength 1", "at 4 strength 9"));
        Check.due("25: the last carries most", x.worst(), 4);
    }

    /** III: "of those at home where they come to (not FALLEN) the strongest (the first ..)". */
    private static void heirs() {
        String first = "isle places 3 hours 2 weight 2 odds 0;path 0 to 1;path 1 to 2;"
            + "tree at 2 fruit 1;bearer at 0 strength 1;";
        heir(first + "bearer at 1 strength 98;bearer at 1 strength 99;bearer at 1 strength 99;", 2);
        heir(first + "bearer at 1 strength 99;bearer at 1 strength 98;bearer at 2 strength 99;", 1);
        heir(first + "bearer at 2 strength 99;bearer at 0 strength 99;bearer at 1 strength 2;", 3);
        heir(first + "bearer at 1 strength 2;".repeat(4), 1);
        heir(first + "bearer at 2 strength 99;".repeat(3) + "bearer at 1 strength 1;", 4);
        heir(first + "bearer at 2 strength 99;".repeat(2) + "bearer at 0 strength 99;", -1);
        heir(first, -1);
        // Strong enough or not, he must carry on: then he falls in his turn.
        NeckRider x = Check.told(first + "bearer at 1 strength 1;");
        Check.due("20: the second falls too", x.over(), 1);
        Check.due("24: both", x.fallen(), 3);
    }

    private static void heir(String text, int due) {
        NeckRider x = Check.told(text);
        Check.due("14: the heir of " + text, x.on(1), due);
        Check.due("20: over", x.over() == 0 ? 1 : 0, due == -1 ? 1 : 0);
    }

    /** III: "3 less tired (0 at least)". */
    private static void resting() {
        for (int weight = 1; weight <= 20; weight++) {
            NeckRider x = Check.told(STEP.replace("hours 1", "hours 12").replace("weight 2",
                "weight " + weight).replace("fruit 1", "fruit 9").replace("strength 2", "strength 99"));
            for (int h = 1; h <= 10; h++) {
                Check.due("16: after " + (h - 1) + " meals, of " + weight, x.tired(0, h),
                    Math.max(0, weight - 3 * (h - 1)));
                Check.due("15: 1 more each", x.weighs(h), weight + h - 1);
            }
            Check.due("30: peak", x.peak(0), weight);
        }
    }

    /** IV: "is DRUNK in this HOUR and the next two". */
    private static void drunkHours() {
        for (int offer = 0; offer < 12; offer++) {
            NeckRider x = Check.told(WINE);
            Check.due("58: wine", x.offer(offer), 1);
            for (int h = 0; h < 12; h++) {
                boolean in = h >= offer && h <= offer + 2;
                Check.due("19: offered in " + offer + ", in " + h, x.drunk(h), in ? 1 : 0);
                Check.due("18: sleeps, or stays", x.does(h), in ? 1 : 4);
                Check.due("13: he stays where he is", x.at(h + 1), 0);
            }
            Bounds.of("19: an HOUR", 0, 11, -2, x::drunk);
        }
        // Drunk by one vine, he can't drink of another till the third hour is over.
        for (int again = 1; again < 6; again++) {
            NeckRider x = Check.told(WINE + "vine at 0 ripe 0;");
            x.offer(0);
            Check.due("58: again in " + again, x.offer(again), again >= 3 ? 1 : 0);
            for (int h = 0; h < 12; h++) {
                boolean in = h <= 2 || again >= 3 && h >= again && h <= again + 2;
                Check.due("19: again in " + again + ", in " + h, x.drunk(h), in ? 1 : 0);
            }
        }
        // Carried in the first two hours but that of the drink, and in no later one.
        for (int carry = 1; carry < 6; carry++) {
            NeckRider x = Check.told(WINE);
            x.offer(0);
            Check.due("59: carried in " + carry, x.carry(carry, 1), carry <= 2 ? 1 : 0);
            Check.due("13: there", x.at(carry + 1), carry <= 2 ? 1 : 0);
            Check.due("18: does", x.does(carry), carry <= 2 ? 3 : 4);
        }
    }

    /** IV: "a VINE .. that is ripe (its hour is no later)"; 36: "NONE: none". */
    private static void ripeHours() {
        for (int ripe = 0; ripe <= 12; ripe++) {
            for (int h = 0; h < 12; h++) {
                NeckRider x = Check.told(WINE.replace("ripe 0", "ripe " + ripe));
                Check.due("58: ripe " + ripe + ", in " + h, x.offer(h), ripe <= h ? 1 : 0);
                Check.due("19: drunk", x.drunk(h), ripe <= h ? 1 : 0);
                Check.due("36: drunk up or not", x.ripens(0), ripe < 12 ? ripe : -1);
                x.anew();
                Check.due("36: ripe " + ripe, x.ripens(0), ripe < 12 ? ripe : -1);
            }
        }
        // He is in 0 till hour 11, in 1 at the last moment alone; HOURS are 0 .. 11.
        NeckRider x = Check.told(LAST.replace("strength 11", "strength 99")
            + "vine at 1 ripe 0;vine at 0 ripe 11;vine at 0 ripe 12;");
        row("36: ripens", x::ripens, -1, 11, -1);
        Check.tell(x, LAST.replace("fruit 2", "fruit 1").replace("strength 11", "strength 99")
            + "vine at 1 ripe 0;vine at 0 ripe 10;vine at 0 ripe 11;");
        row("36: ripens", x::ripens, 11, 10, -1);
    }

    /** 20, 21: thrown in the soonest hour, and in the last. */
    private static void thrownHours() {
        for (int h = 1; h < 12; h++) {
            NeckRider x = Check.told(WINE + "brook at 0;");
            x.offer(h - 1);
            Check.due("60: thrown", x.toss(h), 1);
            Check.due("20: over in " + h, x.over(), h);
            Check.due("21: 1: thrown", x.how(), 1);
            Check.due("18: 5: he is thrown", x.does(h), 5);
            Check.due("13: in it", x.at(h), 0);
            Check.due("28: stays", x.stays(0), (1 << h + 1) - 1);
            for (int k = h + 1; k <= 12; k++) {
                Check.due("13: behind it", x.at(k), -1);
                Check.due("14: behind it", x.on(k), -1);
                if (k < 12) Check.due("18: OVER ahead of it", x.does(k), 0);
            }
            Check.due("24: nobody falls", x.fallen(), 0);
        }
        // Two hours after the drink he can still be thrown, after three he can't.
        for (int h = 1; h < 6; h++) {
            NeckRider x = Check.told(WINE + "brook at 0;");
            x.offer(0);
            Check.due("60: in " + h, x.toss(h), h <= 2 ? 1 : 0);
            Check.due("20: over", x.over(), h <= 2 ? h : -1);
            Check.due("21: how", x.how(), h <= 2 ? 1 : -1);
            Check.due("19: drunk", x.drunk(3), 0);
        }
    }

    /** III: "without BEARERS he never rides". */
    private static void neverRides() {
        NeckRider x = Check.told("isle places 2 hours 12 weight 20 odds 10;path 0 to 1;"
            + "tree at 0 fruit 9;tree at 1 fruit 9;vine at 0 ripe 0;brook at 0;brook at 1;");
        row("13: NONE: he never rides", x::at, -1, -1, -1, -1, -1, -1, -1, -1, -1, -1, -1, -1, -1);
        row("14: likewise", x::on, -1, -1, -1, -1, -1, -1, -1, -1, -1, -1, -1, -1, -1);
        row("15: weighs", x::weighs, 20, 20, 20, 20, 20, 20, 20, 20, 20, 20, 20, 20, 20);
        row("17: fruit", h -> x.fruit(1, h), 9, 9, 9, 9, 9, 9, 9, 9, 9, 9, 9, 9, 9);
        row("18: 0: he never rides", x::does, 0, 0, 0, 0, 0, 0, 0, 0, 0, 0, 0, 0);
        Check.due("58: no wine for him", x.offer(0), 0);
        Check.due("60: nobody is thrown", x.toss(1), 0);
        row("19: not DRUNK", x::drunk, 0, 0, 0, 0, 0, 0, 0, 0, 0, 0, 0, 0);
        Check.due("20: NONE: in none", x.over(), -1);
        Check.due("21: NONE: it is not OVER", x.how(), -1);
        row("27: at none", x::comes, -1, -1);
        row("28: at none", x::stays, 0, 0);
        row("36: NONE", x::ripens, -1);
        Check.due("25: NONE", x.worst(), -1);
        Check.due("31: he does not stay", x.hungry(), -1);
    }

    /** III: "a least WAY to the TREE to which he STEERS (the least PLACE of several)". */
    private static void firstOfSeveral() {
        // From 6, all of 1 .. 5 lie between it and 0: by 1; without it, by 2, and so on.
        String text = "isle places 7 hours 2 weight 1 odds 0;"
            + "path 6 to 5;path 6 to 4;path 6 to 3;path 6 to 2;path 6 to 1;path 0 to 5;path 0 to 4;"
            + "path 0 to 3;path 0 to 2;path 0 to 1;tree at 0 fruit 1;bearer at 6 strength 99;";
        for (int p = 1; p < 6; p++) {
            NeckRider x = Check.told(text);
            row("13: the least PLACE", x::at, 6, p, 0);
            text = text.replace("path 6 to " + p + ";", "");
        }
        // Not by 0, the least of all beside it, as no least WAY goes there.
        NeckRider x = Check.told("isle places 7 hours 2 weight 1 odds 0;path 3 to 0;path 3 to 6;"
            + "path 6 to 5;path 0 to 1;path 1 to 5;tree at 5 fruit 1;bearer at 3 strength 99;");
        row("13: a least WAY", x::at, 3, 6, 5);
        // The nearest of trees, of those the first; a nearer one that is bare is none.
        Check.tell(x, "isle places 4 hours 1 weight 1 odds 0;path 0 to 1;path 0 to 2;path 2 to 3;"
            + "tree at 1 fruit 0;tree at 3 fruit 9;tree at 2 fruit 1;tree at 1 fruit 1;"
            + "bearer at 0 strength 99;");
        row("13: to the first of the nearest", x::at, 0, 2);
    }

    /** "at the beginning of any HOUR (0 .. hours)": the first and the last moment count. */
    private static void moments() {
        NeckRider x = Check.told(STEP);
        row("28: stays", x::stays, 1, 2);
        row("30: peak, at the last", x::peak, 2);
        row("29: left", x::left, 1, 1);
        row("27: comes", x::comes, 0, -1);
        Check.tell(x, STEP.replace("tree at 1", "tree at 0"));
        row("29: left, at the last", x::left, 1, 0);
        row("15: weighs, at the last", x::weighs, 2, 3);
        row("17: fruit, at the last", h -> x.fruit(0, h), 1, 0);
        Check.tell(x, "isle places 2 hours 2 weight 1 odds 0;" + "tree at 1 fruit 9;".repeat(5));
        Check.due("29: all that can be", x.left(2), 45);
    }

    private static void asTheModel() {
        for (String text : new String[] {Bounds.BARE, MEALS, STEP, LAST, FIVE, WINE, PlanTest.LINE,
            PlanTest.LONGEST, IsleTest.SQUARE, RideTest.FALLS, RideTest.DROPPED, RideTest.RIDERLESS,
            WINE + "brook at 1;", Bounds.BARE + "bearer at 1 strength 99;"}) {
            Bounds.asTheModel(text, true);
        }
        Bounds.asTheModel(Bounds.FULL, false);
    }
}
