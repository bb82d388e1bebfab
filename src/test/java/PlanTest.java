/** Promises 37 to 46: plans, and what would be otherwise. */
final class PlanTest {
    /** He is thrown in the last of twelve hours at best, carried to place 0 from his meal. */
    static final String LONGEST = "isle places 2 hours 12 weight 1 odds 0;path 0 to 1;"
        + "tree at 1 fruit 9;vine at 1 ripe 9;brook at 0;bearer at 0 strength 99;";
    static final String LINE = "isle places 7 hours 8 weight 16 odds 0;path 0 to 1;path 1 to 2;"
        + "path 2 to 3;path 3 to 4;path 4 to 5;path 5 to 6;tree at 1 fruit 1;tree at 2 fruit 1;"
        + "tree at 6 fruit 1;bearer at 0 strength 99;";

    private PlanTest() { }

    static void run() {
        onePlan();
        several();
        none();
        now();
        wine();
        bend();
        dams();
        needs();
        drops();
        longest();
        triedOut();
    }

    private static void plan(NeckRider x, int... due) {
        for (int h = 0; h < due.length; h++) Check.due("39: plan " + h, x.plan(h), due[h]);
        Check.due("39: plan behind", x.plan(due.length), -2);
        Check.due("39: plan ahead", x.plan(-1), -2);
    }

    private static void onePlan() {
        NeckRider x = Check.told(IsleTest.SQUARE);
        Check.due("37: rid", x.rid(), 4);
        Check.due("38: ways", x.ways(), 1);
        plan(x, 0, 0, 1, 12, 2, 0, 0, 0);
        Check.due("40: wine", x.wine(), 0);
        Check.due("41: bend", x.bend(), -1);
        Check.due("42: bent 0", x.bent(0), 4);
        Check.due("42: bent 1", x.bent(1), 4);
        Check.due("42: bent 2", x.bent(2), -1);
        Check.due("42: bent 3", x.bent(3), -2);
        Check.due("42: bent -1", x.bent(-1), -2);
        Check.due("43: dam 0", x.dam(0), 4);
        Check.due("43: dam 2", x.dam(2), 4);
        Check.due("43: dam 3", x.dam(3), 3);
        Check.due("43: dam 5", x.dam(5), -2);
        Check.due("43: dam -1", x.dam(-1), -2);
        Check.due("44: dams", x.dams(), 3);
        Check.due("9: no brook is left of it", x.brooks(), 4);
        Check.due("17: no tree is bent", x.fruit(2, 0), 1);
    }

    /** The vine is where he begins, a brook on either side: he can be carried to either. */
    private static void several() {
        String text = "isle places 3 hours 6 weight 1 odds 0;path 0 to 1;path 0 to 2;"
            + "vine at 0 ripe 0;brook at 2;brook at 1;bearer at 0 strength 9;";
        NeckRider x = Check.told(text);
        Check.due("37: rid", x.rid(), 2);
        Check.due("38: two rows", x.ways(), 2);
        plan(x, 1, 11, 2, 0, 0, 0);
        // Ripe later: none, none, .. come first.
        Check.tell(x, text.replace("ripe 0", "ripe 2"));
        Check.due("37: rid", x.rid(), 4);
        plan(x, 0, 0, 1, 11, 2, 0);
        Check.tell(x, text + "brook at 0;");
        Check.due("37: in its own place", x.rid(), 1);
        Check.due("38: one row", x.ways(), 1);
        plan(x, 1, 2, 0, 0, 0, 0);
        // Two vines, two brooks. By 0: he must first be carried, drunk, to the second vine.
        Check.tell(x, "isle places 4 hours 9 weight 1 odds 0;path 0 to 1;path 1 to 2;path 2 to 3;"
            + "vine at 0 ripe 0;vine at 2 ripe 0;brook at 3;bearer at 0 strength 9;");
        Check.due("37: by two vines", x.rid(), 5);
        plan(x, 1, 11, 12, 1, 13, 2, 0, 0, 0);
        Check.due("38: ways", x.ways(), 1);
        Check.due("40: either is needed, the first", x.wine(), 0);
        // Two vines in one place: he drinks one of them, and that is one row.
        Check.tell(x, text + "vine at 0 ripe 0;");
        Check.due("38: two vines in one place", x.ways(), 2);
        Check.due("40: one of them is enough", x.wine(), -1);
    }

    private static void none() {
        NeckRider x = Check.told(IsleTest.SQUARE.replace("brook at 2;", ""));
        Check.due("37: rid", x.rid(), -1);
        Check.due("38: ways", x.ways(), 0);
        plan(x, -1, -1, -1, -1, -1, -1, -1, -1);
        Check.due("40: wine", x.wine(), -1);
        Check.due("41: bend", x.bend(), -1);
        Check.due("42: bent", x.bent(0), -1);
        Check.due("43: dam 4", x.dam(4), -1);
        Check.due("44: dams", x.dams(), 3);
        // Thrown in the last hour, and an hour too late.
        String text = "isle places 2 hours 3 weight 1 odds 0;path 0 to 1;vine at 0 ripe 0;"
            + "brook at 1;bearer at 0 strength 1;";
        Check.tell(x, text);
        Check.due("37: in the last hour", x.rid(), 2);
        Check.tell(x, text.replace("hours 3", "hours 2"));
        Check.due("37: too late", x.rid(), -1);
        Check.tell(x, text.replace("weight 1", "weight 2"));
        Check.due("37: dropped on the way", x.rid(), -1);
        Check.tell(x, text.replace("hours 3", "hours 5").replace("brook at 1", "brook at 1;"
            + "vine at 1 ripe 5"));
        Check.due("37: an unripe vine changes nothing", x.rid(), 2);
    }

    /** Plans are from none: acts now change nothing; fruit and images do. */
    private static void now() {
        NeckRider x = Check.told(IsleTest.SQUARE);
        x.image(0);
        x.offer(2);
        x.toss(3);
        Check.due("37: from none", x.rid(), 4);
        x.anew();
        x.grow(2, 0);
        Check.due("37: another fruit", x.rid(), -1);
        x.grow(2, 9);
        Check.due("37: more of it", x.rid(), 4);
        x.grow(2, 0);
        x.back(0);
        Check.due("37: as it was", x.rid(), 4);
        Check.tell(x, RideTest.RIDERLESS);
        Check.due("37: another isle", x.rid(), -1);
    }

    private static void wine() {
        String text = "isle places 3 hours 9 weight 1 odds 0;path 0 to 1;path 0 to 2;"
            + "vine at 0 ripe 3;vine at 0 ripe 1;vine at 0 ripe 0;brook at 0;"
            + "bearer at 0 strength 9;";
        NeckRider x = Check.told(text);
        Check.due("37: rid", x.rid(), 1);
        Check.due("40: the one that is ripe first", x.wine(), 2);
        Check.tell(x, text.replace("ripe 1", "ripe 0"));
        Check.due("40: another is as good", x.wine(), -1);
        Check.tell(x, text.replace("vine at 0 ripe 3;vine at 0 ripe 1;", ""));
        Check.due("40: by none is latest", x.wine(), 0);
    }

    /** The first tree keeps him from the vine in 2 for two hours. */
    private static void bend() {
        String text = "isle places 3 hours 9 weight 1 odds 0;path 0 to 1;path 1 to 2;"
            + "tree at 0 fruit 2;tree at 2 fruit 1;vine at 2 ripe 0;brook at 2;"
            + "bearer at 0 strength 99;";
        NeckRider x = Check.told(text);
        Check.due("37: rid", x.rid(), 5);
        Check.due("42: without the first", x.bent(0), 3);
        Check.due("42: without the second", x.bent(1), -1);
        Check.due("41: bend", x.bend(), 0);
        Check.tell(x, text.replace("fruit 2", "fruit 9"));
        Check.due("37: too long a meal", x.rid(), -1);
        Check.due("41: none is latest", x.bend(), 0);
    }

    private static void dams() {
        NeckRider x = Check.told("isle places 4 hours 6 weight 1 odds 0;path 0 to 1;path 0 to 2;"
            + "vine at 0 ripe 0;bearer at 0 strength 9;");
        Check.due("37: no brook", x.rid(), -1);
        Check.due("43: in its place", x.dam(0), 1);
        Check.due("43: beside it", x.dam(1), 2);
        Check.due("43: beside it", x.dam(2), 2);
        Check.due("43: for itself", x.dam(3), -1);
        Check.due("44: the soonest", x.dams(), 0);
        Check.tell(x, "isle places 4 hours 6 weight 1 odds 0;path 0 to 1;path 0 to 2;"
            + "vine at 0 ripe 0;brook at 0;bearer at 0 strength 9;");
        Check.due("44: not sooner than now", x.dams(), -1);
    }

    private static void needs() {
        NeckRider x = Check.told(IsleTest.SQUARE);
        Check.due("45: needs 0", x.needs(0), 4);
        Check.due("45: one who never carries", x.needs(1), 1);
        Check.due("45: none such", x.needs(3), -2);
        Check.due("45: none such", x.needs(-1), -2);
        x.offer(2);
        x.carry(3, 0);
        x.carry(4, 3);
        // Carried drunk, of 4 each, to 0 and to 3; then a path on to 2: 0 4 8 12.
        Check.due("45: acts as now", x.needs(0), 12);
        Check.due("45: they fall now", x.fallen(), 1);
        Check.tell(x, RideTest.DROPPED);
        Check.due("45: needs 0", x.needs(0), 10);
        // Made stronger than bearer 2, bearer 1 is the one who must carry: 5 is enough for a path.
        Check.tell(x, RideTest.FALLS);
        Check.due("45: needs 2", x.needs(2), 1);
        Check.due("8: others as they are", x.bearer(2, 1), 8);
        Check.tell(x, "isle places 2 hours 12 weight 20 odds 0;path 0 to 1;tree at 1 fruit 1;"
            + "tree at 0 fruit 9;vine at 0 ripe 0;vine at 0 ripe 0;vine at 1 ripe 0;"
            + "bearer at 0 strength 1;");
        x.offer(0);
        x.carry(1, 1);
        x.carry(2, 0);
        x.offer(3);
        x.carry(4, 1);
        x.carry(5, 0);
        x.offer(6);
        Check.due("45: tired by four paths of 20", x.needs(0), 80);
        Check.tell(x, "isle places 2 hours 12 weight 20 odds 0;path 0 to 1;tree at 1 fruit 0;"
            + "vine at 0 ripe 0;vine at 0 ripe 0;vine at 1 ripe 0;bearer at 0 strength 99;");
        x.offer(0);
        x.carry(1, 1);
        x.carry(2, 0);
        x.offer(3);
        x.carry(4, 1);
        x.carry(5, 1);
        x.offer(6);
        x.carry(7, 0);
        x.carry(8, 1);
        Check.due("45: by none", x.needs(0), -1);
    }

    private static void drops() {
        NeckRider x = Check.told(IsleTest.SQUARE);
        Check.due("46: drops", x.drops(), 10);
        x.offer(2);
        Check.due("46: without acts", x.drops(), 10);
        Check.due("66: the weight stays", x.count(2), 3);
        Check.tell(x, RideTest.DROPPED);
        Check.due("46: two paths of 5", x.drops(), 5);
        Check.tell(x, RideTest.DROPPED.replace("at 0 strength 9", "at 0 strength 99"));
        Check.due("46: by none", x.drops(), -1);
        Check.tell(x, RideTest.DROPPED.replace("at 0 strength 9", "at 0 strength 1"));
        Check.due("46: the least weight", x.drops(), 1);
        Check.tell(x, RideTest.DROPPED.replace("at 0 strength 9", "at 0 strength 39"));
        Check.due("46: the greatest weight", x.drops(), 20);
    }

    private static void longest() {
        NeckRider x = Check.told(LONGEST);
        Check.due("37: in the twelfth hour", x.rid(), 11);
        Check.due("38: ways", x.ways(), 1);
        plan(x, 0, 0, 0, 0, 0, 0, 0, 0, 0, 1, 10, 2);
        Check.due("43: in its own place", x.dam(1), 10);
        Check.due("44: dams", x.dams(), 1);
        Check.due("42: no tree, no wine", x.bent(0), -1);
        Check.tell(x, LONGEST.replace("ripe 9", "ripe 10"));
        Check.due("37: in the thirteenth there is none", x.rid(), -1);
        Check.due("44: dams", x.dams(), 1);
        Check.tell(x, LONGEST.replace("ripe 9", "ripe 12").replace("brook at 0", "brook at 1"));
        Check.due("37: ripe behind the last hour", x.rid(), -1);
        Check.tell(x, LINE);
        Check.due("45: the greatest strength", x.needs(0), 99);
        Check.tell(x, LINE.replace("weight 16", "weight 17"));
        Check.due("45: no strength is enough", x.needs(0), -1);
        Check.due("24: he falls", x.fallen(), 1);
    }

    /** A plan, acted, throws him in that hour; left out its last act, it does not. */
    private static void triedOut() {
        java.util.Random r = new java.util.Random(99);
        int plans = 0;
        for (int i = 0; i < 4000; i++) {
            NeckRider x = Check.told(Isles.text(r));
            if (x.rid() < 0) continue;
            plans++;
            for (int h = 0; h < x.count(1); h++) {
                int act = x.plan(h);
                if (act == 1) Check.due("58: as planned", x.offer(h), 1);
                if (act == 2) Check.due("60: as planned", x.toss(h), 1);
                if (act >= 10) Check.due("59: as planned", x.carry(h, act - 10), 1);
            }
            Check.due("37: over as planned", x.over(), x.rid());
            Check.due("21: thrown as planned", x.how(), 1);
        }
        Check.holds("plans were tried out", plans > 100);
    }
}
