/** Promises 32, 33 and 37 to 46 at their bounds. */
final class PlanBounds {
    /** The soonest that can be: he drinks in hour 0, and is thrown in hour 1. */
    static final String SOONEST = "isle places 2 hours 2 weight 20 odds 10;path 0 to 1;"
        + "vine at 0 ripe 0;brook at 0;bearer at 0 strength 1;";
    /** Wine in the midst, brooks all around: six rows. */
    static final String STAR = "isle places 7 hours 3 weight 1 odds 0;path 0 to 1;path 0 to 2;"
        + "path 0 to 3;path 0 to 4;path 0 to 5;path 0 to 6;vine at 0 ripe 0;brook at 1;brook at 2;"
        + "brook at 3;brook at 4;brook at 5;brook at 6;bearer at 0 strength 99;";

    private PlanBounds() { }

    static void run() {
        things();
        noIsle();
        soonest();
        latest();
        rows();
        rowsInOrder();
        reachOfWine();
        fallenInPlans();
        wine();
        bend();
        dams();
        from();
        needs();
        drops();
        leavesAllAsItWas();
        asTheModel();
    }

    private static void plan(NeckRider x, int rid, int ways, int... rows) {
        Check.due("37: rid", x.rid(), rid);
        Check.due("38: ways", x.ways(), ways);
        for (int h = 0; h < x.count(1); h++) {
            int due = rid < 0 ? -1 : h < rows.length ? rows[h] : 0;
            Check.due("39: plan " + h, x.plan(h), due);
        }
        Bounds.of("39: an HOUR", 0, x.count(1) - 1, -2, x::plan);
    }

    /** "-2: there is none such". */
    private static void things() {
        NeckRider x = Check.told(Bounds.FULL);
        Bounds.of("32: a BEARER", 0, 4, -2, x::from);
        Bounds.of("39: an HOUR", 0, 11, -2, x::plan);
        Bounds.of("42: a TREE", 0, 4, -2, x::bent);
        Bounds.of("43: a PLACE", 0, 6, -2, x::dam);
        Bounds.of("45: a BEARER", 0, 4, -2, x::needs);
        NeckRider y = Check.told(Bounds.BARE);
        Bounds.none("32: a BEARER", -2, y::from);
        Bounds.of("39: an HOUR", 0, 0, -2, y::plan);
        Bounds.none("42: a TREE", -2, y::bent);
        Bounds.of("43: a PLACE", 0, 1, -2, y::dam);
        Bounds.none("45: a BEARER", -2, y::needs);
    }

    /** "-2: there is no ISLE"; without BEARERS there is one, and NONE is answered. */
    private static void noIsle() {
        NeckRider x = new NeckRider();
        NeckRider y = Check.told("isle places 2 hours 12 weight 20 odds 0;path 0 to 1;"
            + "tree at 1 fruit 9;vine at 0 ripe 0;brook at 0;brook at 1;");
        int[] promise = {33, 37, 38, 40, 41, 44, 46};
        int[] without = {x.best(), x.rid(), x.ways(), x.wine(), x.bend(), x.dams(), x.drops()};
        int[] riderless = {y.best(), y.rid(), y.ways(), y.wine(), y.bend(), y.dams(), y.drops()};
        for (int i = 0; i < promise.length; i++) {
            Check.due(promise[i] + ": no ISLE", without[i], -2);
            Check.due(promise[i] + ": no BEARERS", riderless[i], promise[i] == 38 ? 0 : -1);
        }
        Bounds.none("32: no ISLE", -2, x::from);
        Bounds.none("39: no ISLE", -2, x::plan);
        Bounds.none("42: no ISLE", -2, x::bent);
        Bounds.none("43: no ISLE", -2, x::dam);
        Bounds.none("45: no ISLE", -2, x::needs);
        Check.due("39: no BEARERS", y.plan(11), -1);
        Check.due("42: no BEARERS", y.bent(0), -1);
        Check.due("43: no BEARERS", y.dam(1), -1);
    }

    private static void soonest() {
        NeckRider x = Check.told(SOONEST);
        plan(x, 1, 1, 1, 2);
        Check.due("40: the one VINE", x.wine(), 0);
        Check.due("43: as soon", x.dam(1), 1);
        Check.due("44: none is sooner", x.dams(), -1);
        Check.tell(x, SOONEST.replace("hours 2", "hours 1"));
        plan(x, -1, 0);
        Check.due("40: none is not later than none", x.wine(), -1);
        Check.tell(x, SOONEST.replace("hours 2", "hours 12"));
        plan(x, 1, 1, 1, 2);
        // What is ripe an hour later, or thirsted for elsewhere, is later.
        Check.tell(x, SOONEST.replace("hours 2", "hours 3").replace("ripe 0", "ripe 1"));
        plan(x, 2, 1, 0, 1, 2);
        Check.tell(x, SOONEST.replace("hours 2", "hours 3").replace("brook at 0", "brook at 1"));
        plan(x, -1, 0);
        Check.tell(x, SOONEST.replace("hours 2", "hours 3").replace("brook at 0", "brook at 1")
            .replace("strength 1", "strength 20"));
        plan(x, 2, 1, 1, 11, 2);
    }

    /** Ripe in 10, he is thrown in the last hour, 11; ripe in 11 or 12, in none. */
    private static void latest() {
        String text = SOONEST.replace("hours 2", "hours 12");
        for (int ripe = 0; ripe <= 12; ripe++) {
            NeckRider x = Check.told(text.replace("ripe 0", "ripe " + ripe));
            Check.due("37: ripe " + ripe, x.rid(), ripe <= 10 ? ripe + 1 : -1);
            Check.due("38: one row or none", x.ways(), ripe <= 10 ? 1 : 0);
            for (int h = 0; h < 12; h++) {
                int due = ripe > 10 ? -1 : h == ripe ? 1 : h == ripe + 1 ? 2 : 0;
                Check.due("39: ripe " + ripe + ", in " + h, x.plan(h), due);
            }
            Check.due("40: without it", x.wine(), ripe <= 10 ? 0 : -1);
        }
    }

    private static void rows() {
        NeckRider x = Check.told(STAR);
        plan(x, 2, 6, 1, 11, 2);
        Check.due("43: in the midst", x.dam(0), 1);
        Check.due("44: in the midst", x.dams(), 0);
        for (int p = 1; p < 7; p++) {
            Check.due("43: a BROOK already", x.dam(p), 2);
            Check.tell(x, STAR.replace("brook at " + p + ";", ""));
            plan(x, 2, 5, 1, p == 1 ? 12 : 11, 2);
            Check.tell(x, STAR);
        }
        // Two paths off there is none in time; with the vine beside it there is.
        Check.tell(x, STAR.replace("bearer at 0", "bearer at 6").replace("hours 3", "hours 12")
            + "tree at 0 fruit 1;");
        plan(x, 3, 6, 0, 1, 11, 2);
    }

    /** 39: "the least row, HOUR by HOUR: none, OFFER, THROW, CARRY to PLACE 0, ..". */
    private static void rowsInOrder() {
        // Drunk from 0 to 2, then from 3 on, at 0 again: he may be carried out and back, or stay.
        String text = "isle places 2 hours 9 weight 1 odds 0;path 0 to 1;vine at 0 ripe 0;"
            + "vine at 0 ripe 3;brook at 1;bearer at 0 strength 99;";
        NeckRider x = Check.told(text);
        plan(x, 2, 1, 1, 11, 2);
        // Only by the second drink, at 1, is a brook near enough: by 1 in hour 1 or in hour 2.
        Check.tell(x, "isle places 3 hours 9 weight 1 odds 0;path 0 to 1;path 1 to 2;"
            + "vine at 0 ripe 0;vine at 1 ripe 3;brook at 2;bearer at 0 strength 99;");
        plan(x, 5, 2, 1, 0, 11, 1, 12, 2);
        // OFFER goes ahead of CARRY, and none of all: the offer need not be of use.
        Check.tell(x, "isle places 3 hours 9 weight 1 odds 0;path 0 to 1;path 1 to 2;"
            + "vine at 0 ripe 0;vine at 0 ripe 0;vine at 1 ripe 6;brook at 2;tree at 1 fruit 1;"
            + "bearer at 0 strength 99;");
        // He is in 1 and sober in hour 6: by no drink; by one in 0 (then from 0, 1 or 2 on his own,
        // which is 5 rows); or by that and another one in 3, at 0 again, which is 2 times 2.
        plan(x, 8, 10, 0, 0, 0, 0, 0, 0, 1, 12, 2);
        // Carried to the least PLACE first: 0 of 0 and 2.
        Check.tell(x, "isle places 3 hours 3 weight 1 odds 0;path 1 to 2;path 1 to 0;"
            + "vine at 1 ripe 0;brook at 2;brook at 0;bearer at 1 strength 9;");
        plan(x, 2, 2, 1, 10, 2);
    }

    /** IV: two hours behind the drink: a BROOK a PATH off is reached, two PATHS off is not. */
    private static void reachOfWine() {
        String text = "isle places 4 hours 12 weight 1 odds 0;path 0 to 1;path 1 to 2;path 2 to 3;"
            + "vine at 0 ripe 0;bearer at 0 strength 99;";
        NeckRider x = Check.told(text);
        int[] due = {1, 2, -1, -1};
        for (int p = 0; p < 4; p++) Check.due("43: " + p + " PATHS off", x.dam(p), due[p]);
        for (int p = 0; p < 4; p++) {
            NeckRider y = Check.told(text + "brook at " + p + ";");
            Check.due("37: " + p + " PATHS off", y.rid(), due[p]);
        }
        // A tree leads him on when he is sober again: from 2, to 3 in hour 3, but sober.
        Check.tell(x, text + "tree at 3 fruit 9;brook at 3;");
        Check.due("37: sober in the BROOK", x.rid(), -1);
        Check.tell(x, text + "tree at 3 fruit 9;brook at 3;vine at 3 ripe 0;");
        Check.due("37: wine there, too", x.rid(), 4);
        Check.due("38: on his way alone, or carried ahead of it and asleep", x.ways() > 0 ? 1 : 0, 1);
        // Strength: carried to the brook he falls, and nobody is there.
        Check.tell(x, text.replace("strength 99", "strength 1").replace("weight 1", "weight 2")
            + "brook at 1;");
        Check.due("37: dropped ahead of it", x.rid(), -1);
        Check.tell(x, text.replace("strength 99", "strength 1").replace("weight 1", "weight 2")
            + "brook at 1;bearer at 1 strength 1;");
        Check.due("37: another one has him", x.rid(), 2);
    }

    /** III: "(not FALLEN)", in a PLAN as in a ride: he of 0 fell on the way out. */
    private static void fallenInPlans() {
        String text = "isle places 3 hours 9 weight 2 odds 0;path 0 to 1;path 0 to 2;"
            + "tree at 1 fruit 1;tree at 2 fruit 9;vine at 0 ripe 3;brook at 0;"
            + "bearer at 0 strength 1;bearer at 1 strength 1;";
        NeckRider x = Check.told(text);
        Check.due("20: dropped in 0, on his way back", x.over(), 2);
        Check.due("24: both fell", x.fallen(), 3);
        plan(x, -1, 0);
        Check.tell(x, text + "bearer at 0 strength 1;");
        Check.due("14: another one has him", x.on(3), 2);
        plan(x, 4, 1, 0, 0, 0, 1, 2);
    }

    /** 40: "none by any is latest of all", "if later than now, the first of several". */
    private static void wine() {
        String text = "isle places 2 hours 12 weight 1 odds 0;path 0 to 1;brook at 0;"
            + "bearer at 0 strength 1;";
        NeckRider x = Check.told(text);
        Check.due("40: no VINES", x.wine(), -1);
        wine(text, 0, 5, 9, 0);
        wine(text, 5, 0, 9, 1);
        wine(text, 9, 5, 0, 2);
        wine(text, 5, 9, 0, 2);
        wine(text, 0, 0, 9, -1);
        wine(text, 9, 0, 0, -1);
        wine(text, 10, 11, 12, 0);
        wine(text, 12, 10, 11, 1);
        wine(text, 11, 12, 10, 2);
        wine(text, 10, 10, 12, -1);
        wine(text, 11, 12, 12, -1);
        // Both are needed, one to be carried to the other: the first of several.
        Check.tell(x, "isle places 3 hours 9 weight 1 odds 0;path 0 to 1;path 1 to 2;"
            + "vine at 2 ripe 9;vine at 1 ripe 3;vine at 0 ripe 0;brook at 2;bearer at 0 strength 9;");
        Check.due("37: by two", x.rid(), 5);
        Check.due("40: the first of the two", x.wine(), 1);
        // Without the one he is rid of later, without the other never: that is latest of all.
        Check.tell(x, "isle places 3 hours 12 weight 1 odds 0;path 0 to 1;path 1 to 2;"
            + "vine at 1 ripe 3;vine at 1 ripe 8;vine at 0 ripe 0;brook at 2;bearer at 0 strength 9;");
        Check.due("37: by the first and the third", x.rid(), 5);
        Check.due("40: never is latest", x.wine(), 2);
        Check.tell(x, "isle places 3 hours 12 weight 1 odds 0;path 0 to 1;path 1 to 2;"
            + "vine at 1 ripe 3;vine at 1 ripe 9;vine at 0 ripe 0;brook at 2;bearer at 0 strength 9;");
        Check.due("40: later than the last HOUR, too", x.wine(), 2);
        // One that he never comes to is none, ripe or not, told ahead or behind.
        for (int ripe = 0; ripe <= 12; ripe++) {
            String lone = "vine at 3 ripe " + ripe + ";";
            String one = "vine at 0 ripe 5;";
            String rest = text.replace("places 2", "places 4");
            Check.tell(x, rest + one + lone);
            Check.due("37: a lone one behind", x.rid(), 6);
            Check.due("40: a lone one behind", x.wine(), 0);
            Check.tell(x, rest + lone + one);
            Check.due("37: a lone one ahead", x.rid(), 6);
            Check.due("40: a lone one ahead", x.wine(), 1);
            Check.tell(x, rest + lone + one + lone);
            Check.due("37: two lone ones", x.rid(), 6);
            Check.due("40: two lone ones", x.wine(), 1);
        }
    }

    private static void wine(String text, int a, int b, int c, int due) {
        NeckRider x = Check.told(text + "vine at 0 ripe " + a + ";vine at 0 ripe " + b
            + ";vine at 0 ripe " + c + ";");
        int first = Math.min(a, Math.min(b, c));
        Check.due("37: by the first of " + a + " " + b + " " + c, x.rid(), first > 10 ? -1 : first + 1);
        Check.due("40: of " + a + " " + b + " " + c, x.wine(), due);
    }

    /** 41, 42: "if sooner than now (none is latest), the first of several". */
    private static void bend() {
        String text = "isle places 3 hours 12 weight 1 odds 0;path 0 to 1;path 1 to 2;"
            + "vine at 2 ripe 0;brook at 2;bearer at 0 strength 99;";
        NeckRider x = Check.told(text);
        Check.due("41: no TREES", x.bend(), -1);
        // He eats at 0 first; the tree at 2 leads him to the vine.
        bend(text, "tree at 0 fruit 1;tree at 0 fruit 2;tree at 0 fruit 3;tree at 2 fruit 1;", 2, 9);
        bend(text, "tree at 0 fruit 3;tree at 0 fruit 2;tree at 0 fruit 1;tree at 2 fruit 1;", 0, 9);
        bend(text, "tree at 0 fruit 2;tree at 0 fruit 3;tree at 2 fruit 1;", 1, 8);
        bend(text, "tree at 0 fruit 3;tree at 0 fruit 2;tree at 2 fruit 1;", 0, 8);
        bend(text, "tree at 0 fruit 2;tree at 0 fruit 2;tree at 2 fruit 1;", 0, 7);
        bend(text, "tree at 0 fruit 0;tree at 2 fruit 1;", -1, 3);
        bend(text, "tree at 2 fruit 1;", -1, 3);
        bend(text, "tree at 0 fruit 0;tree at 0 fruit 0;tree at 0 fruit 0;tree at 2 fruit 9;"
            + "tree at 0 fruit 1;", 4, 4);
        // From none to the last hour, and to none still.
        bend(text, "tree at 0 fruit 4;tree at 0 fruit 8;tree at 2 fruit 1;", 1, -1);
        bend(text, "tree at 0 fruit 9;tree at 0 fruit 8;tree at 2 fruit 1;", 0, -1);
        bend(text, "tree at 0 fruit 9;tree at 0 fruit 9;tree at 2 fruit 1;", -1, -1);
        Check.tell(x, text + "tree at 0 fruit 9;tree at 0 fruit 8;tree at 2 fruit 1;");
        Check.due("42: the last hour", x.bent(0), 11);
        Check.due("42: NONE", x.bent(1), -1);
        Check.due("42: NONE", x.bent(2), -1);
        Check.tell(x, Bounds.BARE + "tree at 0 fruit 9;");
        Check.due("42: no RID", x.bent(0), -1);
    }

    private static void bend(String text, String trees, int due, int rid) {
        NeckRider x = Check.told(text + trees);
        Check.due("37: " + trees, x.rid(), rid);
        Check.due("41: " + trees, x.bend(), due);
    }

    /** 43: "if the PLACE were a BROOK, too"; 44: "if sooner than now". */
    private static void dams() {
        // The brook at 1 is still there while another PLACE is asked for.
        NeckRider x = Check.told("isle places 3 hours 12 weight 1 odds 0;path 0 to 1;path 0 to 2;"
            + "vine at 0 ripe 0;brook at 1;bearer at 0 strength 99;");
        Check.due("37: rid", x.rid(), 2);
        int[] due = {1, 2, 2};
        for (int p = 0; p < 3; p++) Check.due("43: dam " + p, x.dam(p), due[p]);
        Check.due("44: in its own", x.dams(), 0);
        Check.due("9: BROOKS as told", x.brooks(), 2);
        Check.tell(x, "isle places 7 hours 12 weight 1 odds 0;path 6 to 5;vine at 6 ripe 10;"
            + "brook at 0;bearer at 6 strength 99;");
        Check.due("43: the last PLACE, the last HOUR", x.dam(6), 11);
        Check.due("43: too late", x.dam(5), -1);
        Check.due("44: the last PLACE", x.dams(), 6);
        Check.tell(x, "isle places 7 hours 12 weight 1 odds 0;path 6 to 5;vine at 6 ripe 11;"
            + "brook at 0;bearer at 6 strength 99;");
        Check.due("43: too late", x.dam(6), -1);
        Check.due("44: NONE", x.dams(), -1);
        Check.tell(x, STAR + "brook at 0;");
        for (int p = 0; p < 7; p++) Check.due("43: all are", x.dam(p), 1);
        Check.due("44: none is sooner", x.dams(), -1);
    }

    /** 32: "if he began on a BEARER at its home in place of BEARER 0, no acts"; 33: soonest. */
    private static void from() {
        NeckRider x = Check.told(RideBounds.FIVE);
        for (int b = 0; b < 5; b++) Check.due("32: from " + b, x.from(b), 4 - b);
        Check.due("33: HOUR 0 is soonest", x.best(), 4);
        Check.tell(x, RideBounds.FIVE.replace("at 3 strength", "at 4 strength"));
        // Now nobody is at home in 3, and two are in 4: by any of 2, 3, 4 it is OVER in HOUR 0.
        Check.due("33: the first of several", x.best(), 2);
        Check.tell(x, RideBounds.FIVE.replace("strength 1", "strength 99"));
        for (int b = 0; b < 5; b++) Check.due("32: NONE: in none", x.from(b), -1);
        Check.due("33: NONE: by none", x.best(), -1);
        Check.tell(x, RideBounds.LAST);
        Check.due("32: in the last HOUR", x.from(0), 11);
        Check.due("33: by it alone", x.best(), 0);
        Check.tell(x, RideBounds.LAST.replace("bearer at 0", "bearer at 1 strength 99;bearer at 0"));
        Check.due("32: his tree is where he begins", x.from(0), -1);
        Check.due("32: taken on at 1, by BEARER 0", x.from(1), -1);
        Check.tell(x, RideBounds.LAST.replace("bearer at 0", "bearer at 0 strength 99;bearer at 0"));
        Check.due("32: in the last HOUR", x.from(1), 11);
        Check.due("33: none by BEARER 0", x.best(), 1);
        // Acts change nothing: neither the drink nor the throw.
        Check.tell(x, RideBounds.WINE + "brook at 0;tree at 1 fruit 1;");
        x.offer(0);
        x.toss(1);
        Check.due("20: OVER by acts", x.over(), 1);
        Check.due("32: no acts", x.from(0), -1);
        Check.due("33: no acts", x.best(), -1);
    }

    /** 45: "The least strength (1 .. 99) .. by which he never FALLS, acts as now". */
    private static void needs() {
        NeckRider x = Check.told(RideBounds.FIVE);
        int[] due = {12, 10, 8, 6, 4};
        for (int b = 0; b < 5; b++) Check.due("45: needs " + b, x.needs(b), due[b]);
        for (int b = 0; b < 5; b++) Check.due("8: as they are", x.bearer(b, 1), 1);
        for (int weight = 1; weight <= 20; weight++) {
            Check.tell(x, RideBounds.STEP.replace("weight 2", "weight " + weight));
            Check.due("45: one PATH of " + weight, x.needs(0), weight);
        }
        Check.tell(x, PlanTest.LINE);
        Check.due("45: 99", x.needs(0), 99);
        String more = PlanTest.LINE.replace("fruit 1;tree at 2 fruit 1", "fruit 1;tree at 2 fruit 2");
        Check.tell(x, more);
        Check.due("45: 16 13 30 27 24 43 62 81", x.needs(0), 81);
        Check.tell(x, more.replace("hours 8", "hours 9"));
        Check.due("45: and 100", x.needs(0), -1);
        // He who never carries needs 1; stronger than another one he would have to carry.
        Check.tell(x, "isle places 3 hours 3 weight 9 odds 0;path 0 to 1;path 1 to 2;"
            + "tree at 2 fruit 1;bearer at 0 strength 1;bearer at 1 strength 9;"
            + "bearer at 1 strength 5;bearer at 1 strength 4;bearer at 2 strength 1;");
        Check.due("45: never asked", x.needs(4), 1);
        Check.due("45: the weaker is not asked", x.needs(2), 1);
        Check.due("45: with 5 he is not asked (the first is), with 6 not", x.needs(1), 1);
        Check.due("45: of BEARER 0", x.needs(0), 18);
        // BEARER 0 is at home in the midst of a line, not in 0.
        Check.tell(x, PlanTest.LINE.replace("bearer at 0", "bearer at 4"));
        // He goes to 3, 2, where he eats, to 1, eats, to 2, 3 .. : 16 32 29 46 43 61 79 97.
        Check.due("45: from his home", x.needs(0), 97);
        // Without a story there is no fall.
        Check.tell(x, Bounds.BARE + "bearer at 0 strength 99;");
        Check.due("45: he carries nobody", x.needs(0), 1);
    }

    /** 46: "The least weight (1 .. 20) by which, without acts, it is OVER by being dropped". */
    private static void drops() {
        for (int strength = 1; strength <= 21; strength++) {
            NeckRider x = Check.told(RideBounds.STEP.replace("strength 2", "strength " + strength)
                .replace("weight 2", "weight 7"));
            Check.due("46: above " + strength, x.drops(), strength < 20 ? strength + 1 : -1);
            Check.due("66: his weight is as it was", x.count(2), 7);
            Check.due("15: and in the ride", x.weighs(0), 7);
        }
        NeckRider x = Check.told(RideBounds.FIVE);
        Check.due("46: the least", x.drops(), 1);
        // No weight is below 1: of LAST, eleven meals heavier, 2 is the first above strength 12.
        for (int strength = 1; strength <= 31; strength++) {
            Check.tell(x, RideBounds.LAST.replace("strength 11", "strength " + strength));
            int due = strength < 12 ? 1 : strength < 31 ? strength - 10 : -1;
            Check.due("46: eleven meals, strength " + strength, x.drops(), due);
        }
        // From 1, his home, it is a PATH to the tree; from 0 it would be two.
        Check.tell(x, "isle places 3 hours 9 weight 1 odds 0;path 0 to 1;path 1 to 2;"
            + "tree at 2 fruit 1;bearer at 1 strength 9;");
        Check.due("46: from his home", x.drops(), 10);
        Check.tell(x, Bounds.BARE + "bearer at 0 strength 1;");
        Check.due("46: he is never carried", x.drops(), -1);
        // Carried by acts alone he is dropped, but they do not count; thrown is not dropped.
        Check.tell(x, RideBounds.WINE.replace("strength 99", "strength 1").replace("weight 1",
            "weight 2") + "brook at 0;");
        x.offer(0);
        x.carry(1, 1);
        Check.due("21: dropped", x.how(), 0);
        Check.due("46: without acts", x.drops(), -1);
        x.undo();
        x.toss(1);
        Check.due("21: thrown", x.how(), 1);
        Check.due("46: without acts", x.drops(), -1);
        // Sober he would be dropped, though by the acts he sleeps.
        Check.tell(x, RideBounds.STEP.replace("hours 1", "hours 3") + "vine at 0 ripe 0;");
        x.offer(0);
        Check.due("20: he sleeps", x.over(), -1);
        Check.due("46: without acts", x.drops(), 3);
    }

    /** To ask what would be otherwise changes nothing. */
    private static void leavesAllAsItWas() {
        for (String text : new String[] {IsleTest.SQUARE, PlanTest.LONGEST, RideBounds.FIVE, STAR}) {
            NeckRider x = Check.told(text);
            x.toss(0);
            String before = State.of(x);
            State.same("37: all as it was", State.of(x), before);
            x.undo();
            State.same("37: as told", State.ofIsle(x), State.ofIsle(Check.told(text)));
        }
    }

    private static void asTheModel() {
        for (String text : new String[] {SOONEST, STAR, SOONEST.replace("hours 2", "hours 12"),
            STAR.replace("bearer at 0", "bearer at 3") + "tree at 0 fruit 1;"}) {
            Bounds.asTheModel(text, true);
        }
    }
}
