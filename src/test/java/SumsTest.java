/** Promises 52 to 57, 63 and 64: rests, signs, newcomers, chances, days drawn. */
final class SumsTest {
    private SumsTest() { }

    static void run() {
        rests();
        signs();
        asked();
        trust();
        chance();
        drawn();
    }

    private static void rests() {
        NeckRider x = new NeckRider();
        Check.due("52: 5 3", x.rests(5, 3), 8);
        Check.due("52: 5 2", x.rests(5, 2), 9);
        Check.due("52: 5 1", x.rests(5, 1), 1);
        Check.due("52: 0 0", x.rests(0, 0), 4);
        Check.due("52: 0 1", x.rests(0, 1), 4);
        Check.due("52: 0 2", x.rests(0, 2), 12);
        Check.due("52: 0 3", x.rests(0, 3), 12);
        Check.due("52: 0 4", x.rests(0, 4), 8);
        Check.due("52: 1 2", x.rests(1, 2), 13);
        Check.due("52: 1 0", x.rests(1, 0), 5);
        Check.due("52: 2 2", x.rests(2, 2), 9);
        Check.due("52: 99 99", x.rests(99, 99), 8);
        Check.due("52: 100 0", x.rests(100, 0), -2);
        Check.due("52: 0 100", x.rests(0, 100), -2);
        Check.due("52: -1 0", x.rests(-1, 0), -2);
        Check.due("52: 0 -1", x.rests(0, -1), -2);
    }

    private static void signs() {
        NeckRider x = new NeckRider();
        Check.due("53: 2 5 0", x.signs(2, 5, 0), 3);
        Check.due("53: 2 8 0", x.signs(2, 8, 0), 3);
        Check.due("53: 2 9 0", x.signs(2, 9, 0), 4);
        Check.due("53: 2 5 4", x.signs(2, 5, 4), 4);
        Check.due("53: 1 1 0", x.signs(1, 1, 0), 1);
        Check.due("53: 1 1 1", x.signs(1, 1, 1), -1);
        Check.due("53: 3 0 5", x.signs(3, 0, 5), 1);
        Check.due("53: 2 512 0", x.signs(2, 512, 0), 9);
        Check.due("53: 2 513 0", x.signs(2, 513, 0), -1);
        Check.due("53: 2 999 999", x.signs(2, 999, 999), -1);
        Check.due("53: 9 999 999", x.signs(9, 999, 999), 4);
        Check.due("53: 9 1 9", x.signs(9, 1, 9), 2);
        Check.due("53: 0 1 1", x.signs(0, 1, 1), -2);
        Check.due("53: 10 1 1", x.signs(10, 1, 1), -2);
        Check.due("53: 2 1000 1", x.signs(2, 1000, 1), -2);
        Check.due("53: 2 -1 1", x.signs(2, -1, 1), -2);
        Check.due("53: 2 1 1000", x.signs(2, 1, 1000), -2);
        Check.due("53: 2 1 -1", x.signs(2, 1, -1), -2);
    }

    private static void asked() {
        NeckRider x = new NeckRider();
        Check.due("54: above", x.asked(10, 3, 2, 0), 15);
        Check.due("54: below", x.asked(10, 3, 2, 1), 22);
        Check.due("54: no riders, above", x.asked(5, 0, 1, 0), 0);
        Check.due("54: no riders, below", x.asked(5, 0, 1, 1), 1);
        Check.due("54: all riders, above", x.asked(99, 99, 0, 0), 1);
        Check.due("54: all riders, below", x.asked(99, 99, 0, 1), 1);
        Check.due("54: all ask, above", x.asked(99, 33, 10, 0), 1);
        Check.due("54: all ask, below", x.asked(99, 33, 10, 1), 3);
        Check.due("54: nobody asks", x.asked(5, 0, 0, 0), -1);
        Check.due("54: n 1, above", x.asked(1, 1, 3, 0), 1);
        Check.due("54: n 1, r 0", x.asked(1, 0, 3, 1), 1);
        Check.due("54: n 99", x.asked(99, 98, 10, 1), 99);
        Check.due("54: n 0", x.asked(0, 0, 0, 0), -2);
        Check.due("54: n 100", x.asked(100, 0, 0, 0), -2);
        Check.due("54: r above n", x.asked(5, 6, 0, 0), -2);
        Check.due("54: r below 0", x.asked(5, -1, 0, 0), -2);
        Check.due("54: p 11", x.asked(5, 1, 11, 0), -2);
        Check.due("54: p below 0", x.asked(5, 1, -1, 0), -2);
        Check.due("54: what 2", x.asked(5, 0, 0, 2), -2);
    }

    private static void trust() {
        NeckRider x = new NeckRider();
        Check.due("55: 10 2 50", x.trust(10, 2, 50), 1);
        Check.due("55: 10 0 50", x.trust(10, 0, 50), 0);
        Check.due("55: 10 0 100", x.trust(10, 0, 100), 10);
        Check.due("55: 10 10 100", x.trust(10, 10, 100), 10);
        Check.due("55: 10 10 50", x.trust(10, 10, 50), 5);
        Check.due("55: 10 10 49", x.trust(10, 10, 49), 4);
        Check.due("55: 10 10 0", x.trust(10, 10, 0), 0);
        Check.due("55: 99 10 100", x.trust(99, 10, 100), 99);
        Check.due("55: n 1", x.trust(1, 0, 99), 0);
        Check.due("55: n 1", x.trust(1, 0, 100), 1);
        Check.due("55: n 0", x.trust(0, 1, 1), -2);
        Check.due("55: n 100", x.trust(100, 1, 1), -2);
        Check.due("55: p 11", x.trust(10, 11, 1), -2);
        Check.due("55: q 101", x.trust(10, 1, 101), -2);
        Check.due("55: q -1", x.trust(10, 1, -1), -2);
    }

    private static void chance() {
        NeckRider x = Check.told(IsleTest.SQUARE);
        Check.due("56: above", x.chance(0), 27);
        Check.due("56: below", x.chance(1), 125);
        Check.due("56: what 2", x.chance(2), -2);
        Check.due("56: what -1", x.chance(-1), -2);
        int[][] sure = {{100, 1}, {61, 1}, {60, 3}, {37, 3}, {36, 4}, {22, 4}, {21, 8}, {0, 8}};
        for (int[] s : sure) Check.due("57: sure " + s[0], x.sure(s[0]), s[1]);
        Check.due("57: sure 101", x.sure(101), -2);
        Check.due("57: sure -1", x.sure(-1), -2);
        x.offer(2);
        x.carry(3, 2);
        x.toss(4);
        Check.due("56: acts as now, above", x.chance(0), 3);
        Check.due("56: acts as now, below", x.chance(1), 5);
        Check.due("57: acts as now", x.sure(60), 8);
        String long12 = "isle places 2 hours 12 weight 1 odds 3;tree at 0 fruit 9;"
            + "tree at 0 fruit 9;bearer at 0 strength 1;";
        Check.tell(x, long12);
        Check.due("56: twelve meals, above", x.chance(0), 13841287201L);
        Check.due("56: twelve meals, below", x.chance(1), 1000000000000L);
        Check.due("57: 0.7 0.49 ..", x.sure(49), 2);
        Check.tell(x, long12.replace("odds 3", "odds 10"));
        Check.due("56: sure to choke, above", x.chance(0), 0);
        Check.due("56: sure to choke, below", x.chance(1), 1);
        Check.due("57: sure 1", x.sure(1), 0);
        Check.due("57: sure 0", x.sure(0), 12);
        Check.tell(x, long12.replace("odds 3", "odds 0"));
        Check.due("56: never chokes, above", x.chance(0), 1);
        Check.due("56: never chokes, below", x.chance(1), 1);
        Check.due("57: sure 100", x.sure(100), 12);
    }

    private static void day(NeckRider x, int seed, int hour, int choked, int draws) {
        Check.due("63: hour, seed " + seed, x.drawn(seed, 0), hour);
        Check.due("63: choked, seed " + seed, x.drawn(seed, 1), choked);
        Check.due("63: draws, seed " + seed, x.drawn(seed, 2), draws);
    }

    private static void drawn() {
        NeckRider x = Check.told(IsleTest.SQUARE);
        // He eats in 1, 3 and 4; odds 4.
        day(x, 0, 1, 1, 1);
        day(x, 1, 4, 1, 3);
        day(x, 2, -1, 0, 3);
        day(x, 8, -1, 0, 3);
        day(x, 18, 3, 1, 2);
        day(x, 2000000000, 3, 1, 2);
        Check.due("63: seed too great", x.drawn(2000000001, 0), -2);
        Check.due("63: seed below 0", x.drawn(-1, 0), -2);
        Check.due("63: what 3", x.drawn(0, 3), -2);
        Check.due("63: what -1", x.drawn(0, -1), -2);
        Check.due("64: luck 0 20", x.luck(0, 20), 15);
        Check.due("64: luck 5 10", x.luck(5, 10), 7);
        Check.due("64: luck 2 1", x.luck(2, 1), 0);
        Check.due("64: seeds beyond", x.luck(2000000000, 20), 17);
        Check.due("64: n 0", x.luck(0, 0), -2);
        Check.due("64: n 21", x.luck(0, 21), -2);
        Check.due("64: seed below 0", x.luck(-1, 1), -2);
        Check.due("64: seed too great", x.luck(2000000001, 1), -2);
        x.offer(2);
        x.carry(3, 2);
        x.toss(4);
        day(x, 2, 4, 0, 1);
        day(x, 0, 1, 1, 1);
        Check.tell(x, "isle places 2 hours 1 weight 1 odds 1;tree at 0 fruit 1;"
            + "bearer at 0 strength 1;");
        day(x, 0, 0, 1, 1);
        day(x, 11, -1, 0, 1);
        Check.due("64: none twice chokes", x.luck(11, 2), 0);
        Check.due("64: two of five", x.luck(11, 5), 2);
    }
}
