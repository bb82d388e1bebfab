/** Promises 13 to 33 and 36: where he is, on whom, and who falls. */
final class RideTest {
    /** Bearer 0 falls at once; of three at home there the second is the first of the strongest. */
    static final String FALLS = "isle places 3 hours 6 weight 5 odds 0;path 0 to 1;path 1 to 2;"
        + "tree at 2 fruit 9;bearer at 0 strength 4;bearer at 1 strength 7;"
        + "bearer at 1 strength 8;bearer at 1 strength 8;bearer at 2 strength 50;";
    /** He is dropped in hour 1, as nobody is at home in 2. */
    static final String DROPPED = "isle places 3 hours 5 weight 5 odds 3;path 0 to 1;path 1 to 2;"
        + "tree at 2 fruit 1;vine at 2 ripe 0;brook at 1;"
        + "bearer at 0 strength 9;bearer at 0 strength 4;";
    static final String RIDERLESS = "isle places 2 hours 3 weight 4 odds 5;path 0 to 1;"
        + "tree at 1 fruit 2;vine at 0 ripe 0;brook at 0;";

    private RideTest() { }

    private static void row(String what, java.util.function.IntUnaryOperator call, int... due) {
        for (int i = 0; i < due.length; i++) {
            Check.due(what + " of " + i, call.applyAsInt(i), due[i]);
        }
        Check.due(what + " behind", call.applyAsInt(due.length), -2);
        Check.due(what + " ahead", call.applyAsInt(-1), -2);
        Check.due(what + " of the greatest", call.applyAsInt(Integer.MAX_VALUE), -2);
        Check.due(what + " of the least", call.applyAsInt(Integer.MIN_VALUE), -2);
    }

    static void run() {
        aRide();
        falling();
        dropped();
        thrown();
        riderless();
        steps();
        otherBeginnings();
        ripening();
        lastMoment();
        shorterThanBefore();
        twelveHours();
    }

    private static void aRide() {
        NeckRider x = Check.told(IsleTest.SQUARE);
        row("13: at", x::at, 0, 3, 3, 2, 2, 2, 2, 2, 2);
        row("14: on", x::on, 0, 0, 0, 0, 0, 0, 0, 0, 0);
        row("15: weighs", x::weighs, 3, 3, 4, 4, 5, 6, 6, 6, 6);
        row("16: tired", h -> x.tired(0, h), 0, 3, 0, 4, 1, 0, 0, 0, 0);
        row("16: tired 1", h -> x.tired(1, h), 0, 0, 0, 0, 0, 0, 0, 0, 0);
        Check.due("16: no such bearer", x.tired(3, 0), -2);
        Check.due("16: no such bearer", x.tired(-1, 0), -2);
        row("17: fruit 0", h -> x.fruit(0, h), 2, 2, 2, 2, 1, 0, 0, 0, 0);
        row("17: fruit 2", h -> x.fruit(2, h), 1, 1, 0, 0, 0, 0, 0, 0, 0);
        Check.due("17: no such tree", x.fruit(3, 0), -2);
        row("18: does", x::does, 3, 2, 3, 2, 2, 4, 4, 4);
        row("19: drunk", x::drunk, 0, 0, 0, 0, 0, 0, 0, 0);
        Check.due("20: over", x.over(), -1);
        Check.due("21: how", x.how(), -1);
        Check.due("22: eats", x.eats(), 3);
        row("23: carries", x::carries, 2, 0, 0);
        Check.due("24: fallen", x.fallen(), 0);
        Check.due("25: worst", x.worst(), 0);
        Check.due("26: share above", x.share(0, 0), 1);
        Check.due("26: share below", x.share(0, 1), 1);
        Check.due("26: share of none, above", x.share(2, 0), 0);
        Check.due("26: share of none, below", x.share(2, 1), 1);
        Check.due("26: no such what", x.share(0, 2), -2);
        Check.due("26: no such bearer", x.share(3, 0), -2);
        row("27: comes", x::comes, 0, -1, 3, 1, -1);
        row("28: stays", x::stays, 1, 0, 0b111111000, 0b110, 0);
        row("29: left", x::left, 4, 4, 3, 3, 2, 1, 1, 1, 1);
        row("30: peak", x::peak, 4, 0, 0);
        Check.due("31: hungry", x.hungry(), 5);
        row("36: ripens", x::ripens, 2);
    }

    private static void falling() {
        NeckRider x = Check.told(FALLS);
        row("14: on, falling", x::on, 0, 2, 2, 2, 2, 2, 2);
        row("13: at, falling", x::at, 0, 1, 2, 2, 2, 2, 2);
        row("18: does, falling", x::does, 3, 3, 2, 2, 2, 2);
        row("16: who fell stays tired", h -> x.tired(0, h), 0, 5, 5, 5, 5, 5, 5);
        row("16: 3 less, 0 at least", h -> x.tired(2, h), 0, 0, 5, 2, 0, 0, 0);
        Check.due("24: fallen", x.fallen(), 1);
        row("23: carries", x::carries, 1, 0, 1, 0, 0);
        Check.due("25: the first of several", x.worst(), 0);
        Check.due("26: half, above", x.share(2, 0), 1);
        Check.due("26: half, below", x.share(2, 1), 2);
        row("30: peak", x::peak, 5, 0, 5, 0, 0);
        Check.due("31: never hungry", x.hungry(), -1);
        Check.due("22: eats", x.eats(), 4);
        // Tired just as his strength is, he does not fall.
        Check.tell(x, FALLS.replace("0 strength 4", "0 strength 5"));
        Check.due("24: not above his strength", x.fallen() & 1, 1);
        row("14: he falls a path later", x::on, 0, 0, 4, 4, 4, 4, 4);
        Check.due("25: who carries most", x.worst(), 0);
        // Carried, drunk, to 1 and home again, he falls at home: 10 is above 9.
        String home = "isle places 2 hours 4 weight 5 odds 0;path 0 to 1;vine at 0 ripe 0;"
            + "bearer at 0 strength 9;";
        Check.tell(x, home);
        x.offer(0);
        x.carry(1, 1);
        x.carry(2, 0);
        Check.due("20: who fell must not carry him on", x.over(), 2);
        Check.tell(x, home + "bearer at 0 strength 3;bearer at 1 strength 30;");
        x.offer(0);
        x.carry(1, 1);
        x.carry(2, 0);
        row("14: another one, at home there", x::on, 0, 0, 0, 1, 1);
        Check.tell(x, "isle places 2 hours 6 weight 6 odds 0;path 0 to 1;tree at 0 fruit 1;"
            + "tree at 1 fruit 1;bearer at 1 strength 6;bearer at 0 strength 6;");
        // Eats in 1, is carried to 0 and 7 is above 6: bearer 1 is at home there.
        row("14: on", x::on, 0, 0, 1, 1, 1, 1, 1);
        Check.due("24: fallen", x.fallen(), 1);
    }

    private static void dropped() {
        NeckRider x = Check.told(DROPPED);
        row("13: at, dropped", x::at, 0, 1, -1, -1, -1, -1);
        row("14: on, dropped", x::on, 0, 0, -1, -1, -1, -1);
        row("15: weighs, dropped", x::weighs, 5, 5, 5, 5, 5, 5);
        row("16: tired, dropped", h -> x.tired(0, h), 0, 5, 10, 10, 10, 10);
        row("17: fruit, dropped", h -> x.fruit(0, h), 1, 1, 1, 1, 1, 1);
        row("18: does, dropped", x::does, 3, 3, 0, 0, 0);
        Check.due("20: over", x.over(), 1);
        Check.due("21: how", x.how(), 0);
        Check.due("22: eats", x.eats(), 0);
        row("23: carries", x::carries, 2, 0);
        Check.due("24: fallen", x.fallen(), 1);
        Check.due("25: worst", x.worst(), 0);
        row("27: comes", x::comes, 0, 1, -1);
        row("28: stays", x::stays, 1, 2, 0);
        row("29: left", x::left, 1, 1, 1, 1, 1, 1);
        row("30: peak", x::peak, 10, 0);
        Check.due("31: hungry", x.hungry(), -1);
        row("36: ripens", x::ripens, -1);
    }

    private static void thrown() {
        NeckRider x = Check.told(IsleTest.SQUARE);
        x.offer(2);
        x.carry(3, 2);
        x.toss(4);
        row("13: at, thrown", x::at, 0, 3, 3, 3, 2, -1, -1, -1, -1);
        row("14: on, thrown", x::on, 0, 0, 0, 0, 0, -1, -1, -1, -1);
        row("15: weighs, thrown", x::weighs, 3, 3, 4, 4, 4, 4, 4, 4, 4);
        row("16: tired, thrown", h -> x.tired(0, h), 0, 3, 0, 0, 4, 4, 4, 4, 4);
        row("18: does, thrown", x::does, 3, 2, 1, 3, 5, 0, 0, 0);
        row("19: drunk in the hour and the next two", x::drunk, 0, 0, 1, 1, 1, 0, 0, 0);
        Check.due("20: over", x.over(), 4);
        Check.due("21: how", x.how(), 1);
        Check.due("22: eats", x.eats(), 1);
        row("23: carried drunk, too", x::carries, 2, 0, 0);
        row("28: stays", x::stays, 1, 0, 16, 14, 0);
        Check.due("31: hungry", x.hungry(), -1);
        // The words: DRUNK in the hour and the next two, though it is OVER in the second.
        Check.tell(x, IsleTest.SQUARE + "brook at 3;");
        x.offer(2);
        x.toss(3);
        Check.due("20: over sooner", x.over(), 3);
        row("19: drunk", x::drunk, 0, 0, 1, 1, 1, 0, 0, 0);
    }

    private static void riderless() {
        NeckRider x = Check.told(RIDERLESS);
        row("13: at, no bearers", x::at, -1, -1, -1, -1);
        row("14: on, no bearers", x::on, -1, -1, -1, -1);
        row("15: weighs, no bearers", x::weighs, 4, 4, 4, 4);
        Check.due("16: tired, no bearers", x.tired(0, 0), -2);
        row("17: fruit, no bearers", h -> x.fruit(0, h), 2, 2, 2, 2);
        row("18: does, no bearers", x::does, 0, 0, 0);
        row("19: drunk, no bearers", x::drunk, 0, 0, 0);
        Check.due("20: over", x.over(), -1);
        Check.due("21: how", x.how(), -1);
        Check.due("22: eats", x.eats(), 0);
        Check.due("23: carries", x.carries(0), -2);
        Check.due("24: fallen", x.fallen(), 0);
        Check.due("25: worst", x.worst(), -1);
        Check.due("26: share", x.share(0, 0), -2);
        row("27: comes", x::comes, -1, -1);
        row("28: stays", x::stays, 0, 0);
        row("29: left", x::left, 2, 2, 2, 2);
        Check.due("30: peak", x.peak(0), -2);
        Check.due("31: hungry", x.hungry(), -1);
        Check.due("32: from", x.from(0), -2);
        Check.due("33: best", x.best(), -1);
        row("36: ripens", x::ripens, -1);
        Check.due("37: rid", x.rid(), -1);
        Check.due("38: ways", x.ways(), 0);
        Check.due("39: plan", x.plan(0), -1);
        Check.due("46: drops", x.drops(), -1);
        Check.due("56: chance above", x.chance(0), 1);
        Check.due("56: chance below", x.chance(1), 1);
        Check.due("57: sure", x.sure(100), 3);
        Check.due("58: offer", x.offer(0), 0);
        Check.due("58: it is an act", x.count(8), 1);
        Check.due("63: drawn", x.drawn(0, 0), -1);
        Check.due("63: draws", x.drawn(0, 2), 0);
    }

    private static void steps() {
        // Two least ways from 0 to 3, by 1 and by 2: the least place of several.
        NeckRider x = Check.told("isle places 4 hours 3 weight 1 odds 0;path 0 to 2;path 2 to 3;"
            + "path 0 to 1;path 1 to 3;tree at 3 fruit 1;tree at 3 fruit 1;bearer at 0 strength 9;");
        row("13: the least place", x::at, 0, 1, 3, 3);
        row("17: the first tree there", h -> x.fruit(0, h), 1, 1, 1, 0);
        row("17: not the second", h -> x.fruit(1, h), 1, 1, 1, 1);
        Check.due("26: no path yet", x.share(0, 0), 1);
        // He steers anew each hour, and nobody carries him where he stays.
        Check.tell(x, "isle places 2 hours 3 weight 1 odds 0;tree at 1 fruit 1;"
            + "bearer at 0 strength 9;bearer at 0 strength 9;");
        row("18: no way to the fruit", x::does, 4, 4, 4);
        Check.due("25: nobody carries", x.worst(), -1);
        Check.due("26: he is carried none", x.share(0, 0), -1);
        Check.due("26: none such goes ahead", x.share(2, 0), -2);
        Check.due("31: hungry at once", x.hungry(), 0);
    }

    private static void otherBeginnings() {
        NeckRider x = Check.told(DROPPED);
        row("32: from", x::from, 1, 0);
        Check.due("33: best", x.best(), 1);
        x.offer(0);
        row("32: from, no acts", x::from, 1, 0);
        Check.tell(x, DROPPED.replace("strength 4", "strength 9"));
        Check.due("33: the first of several", x.best(), 0);
        Check.tell(x, IsleTest.SQUARE);
        row("32: from, in none", x::from, -1, -1, -1);
        Check.due("33: by none", x.best(), -1);
        // From bearer 1, bearer 0 is still at home in 0, and takes him on.
        Check.tell(x, "isle places 2 hours 4 weight 5 odds 0;path 0 to 1;tree at 0 fruit 1;"
            + "bearer at 0 strength 1;bearer at 1 strength 4;");
        row("32: from 1 he is taken on", x::from, -1, -1);
    }

    private static void ripening() {
        NeckRider x = Check.told(IsleTest.SQUARE.replace("ripe 2", "ripe 3"));
        row("36: ripe when he is gone", x::ripens, -1);
        Check.tell(x, IsleTest.SQUARE.replace("ripe 2", "ripe 0"));
        row("36: ripe already", x::ripens, 1);
        x.offer(1);
        row("36: drunk up or not", x::ripens, 1);
        Check.tell(x, IsleTest.SQUARE.replace("vine at 3 ripe 2", "vine at 2 ripe 8"));
        row("36: ripe behind the last hour", x::ripens, -1);
        Check.tell(x, IsleTest.SQUARE.replace("vine at 3 ripe 2", "vine at 2 ripe 7"));
        row("36: ripe in the last hour", x::ripens, 7);
    }

    /** The longest isle, to its last moment: he eats of 1 from hour 1 to 9. */
    private static void twelveHours() {
        NeckRider x = Check.told(PlanTest.LONGEST);
        row("13: at", x::at, 0, 1, 1, 1, 1, 1, 1, 1, 1, 1, 1, 1, 1);
        row("14: on", x::on, 0, 0, 0, 0, 0, 0, 0, 0, 0, 0, 0, 0, 0);
        row("15: weighs", x::weighs, 1, 1, 2, 3, 4, 5, 6, 7, 8, 9, 10, 10, 10);
        row("16: tired", h -> x.tired(0, h), 0, 1, 0, 0, 0, 0, 0, 0, 0, 0, 0, 0, 0);
        row("17: fruit", h -> x.fruit(0, h), 9, 9, 8, 7, 6, 5, 4, 3, 2, 1, 0, 0, 0);
        row("18: does", x::does, 3, 2, 2, 2, 2, 2, 2, 2, 2, 2, 4, 4);
        row("28: stays", x::stays, 1, 8190);
        row("29: left", x::left, 9, 9, 8, 7, 6, 5, 4, 3, 2, 1, 0, 0, 0);
        Check.due("31: hungry", x.hungry(), 10);
        Check.due("36: ripens", x.ripens(0), 9);
        // On a line of six paths, fed twice on the way: 16, 13, 30, 27, 45, 63, 81, 99.
        Check.tell(x, PlanTest.LINE);
        row("16: tired", h -> x.tired(0, h), 0, 16, 13, 30, 27, 45, 63, 81, 99);
        Check.due("30: the last moment, too", x.peak(0), 99);
    }

    /** Nothing of the hours, bearers and trees of a longer ride is left in a shorter one. */
    private static void shorterThanBefore() {
        NeckRider x = Check.told(IsleTest.SQUARE.replace("odds 4", "odds 10"));
        Check.due("31: hungry in 5", x.hungry(), 5);
        Check.tell(x, IsleTest.SQUARE.replace("hours 8", "hours 5"));
        Check.due("31: never in five hours", x.hungry(), -1);
        Check.tell(x, IsleTest.SQUARE.replace("hours 8", "hours 1").replace("odds 4", "odds 10"));
        Check.due("63: he eats in hour 1, which is none now", x.drawn(0, 2), 0);
        Check.due("63: drawn", x.drawn(0, 0), -1);
        Check.due("57: sure", x.sure(100), 1);
        Check.due("22: eats", x.eats(), 0);
        row("18: does", x::does, 3);
        row("23: carries", x::carries, 1, 0, 0);
        Check.tell(x, RideTest.DROPPED);
        Check.tell(x, "isle places 3 hours 2 weight 1 odds 0;");
        Check.due("20: over", x.over(), -1);
        Check.due("21: how", x.how(), -1);
        Check.due("24: fallen", x.fallen(), 0);
        Check.due("29: no fruit of trees that are gone", x.left(0), 0);
        Check.due("35: lone", x.lone(), 0);
    }

    /** HOURS are 0 .. hours less 1 where no other bound is told; stays() tells one. */
    private static void lastMoment() {
        NeckRider x = Check.told("isle places 2 hours 1 weight 1 odds 0;path 0 to 1;"
            + "tree at 1 fruit 1;bearer at 0 strength 9;");
        row("13: at", x::at, 0, 1);
        row("27: comes in an HOUR", x::comes, 0, -1);
        row("28: stays, the last moment too", x::stays, 1, 2);
    }
}
