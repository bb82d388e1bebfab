/** Promises 6 to 12, 34, 35 and 66 at their bounds. */
final class IsleBounds {
    private IsleBounds() { }

    static void run() {
        things();
        noThings();
        brooks();
        ways();
        besides();
        steering();
        reaches();
        lones();
        counts();
    }

    /** 6, 7, 8: "-2: there are none such". */
    private static void things() {
        NeckRider x = Check.told(Bounds.FULL);
        int[][] trees = {{2, 9}, {3, 0}, {0, 9}, {5, 1}, {6, 8}};
        int[][] vines = {{0, 12}, {3, 0}, {6, 11}};
        int[][] bearers = {{0, 99}, {6, 1}, {2, 50}, {6, 98}, {1, 2}};
        for (int what = 0; what <= 1; what++) {
            int w = what;
            for (int i = 0; i < 5; i++) Check.due("6: tree " + i, x.tree(i, w), trees[i][w]);
            for (int i = 0; i < 3; i++) Check.due("7: vine " + i, x.vine(i, w), vines[i][w]);
            for (int i = 0; i < 5; i++) Check.due("8: bearer " + i, x.bearer(i, w), bearers[i][w]);
            Bounds.of("6: a TREE", 0, 4, -2, i -> x.tree(i, w));
            Bounds.of("7: a VINE", 0, 2, -2, i -> x.vine(i, w));
            Bounds.of("8: a BEARER", 0, 4, -2, i -> x.bearer(i, w));
        }
        for (int i = 0; i < 3; i++) {
            int k = i;
            Bounds.of("6: what", 0, 1, -2, what -> x.tree(k, what));
            Bounds.of("7: what", 0, 1, -2, what -> x.vine(k, what));
            Bounds.of("8: what", 0, 1, -2, what -> x.bearer(k, what));
        }
        Check.tell(x, "isle places 2 hours 1 weight 1 odds 0;tree at 1 fruit 9;vine at 1 ripe 12;"
            + "bearer at 1 strength 99;");
        Bounds.of("6: the one TREE", 0, 0, -2, i -> x.tree(i, 0));
        Bounds.of("7: the one VINE", 0, 0, -2, i -> x.vine(i, 1));
        Bounds.of("8: the one BEARER", 0, 0, -2, i -> x.bearer(i, 1));
    }

    private static void noThings() {
        NeckRider x = Check.told(Bounds.BARE);
        NeckRider y = new NeckRider();
        for (int what = 0; what <= 1; what++) {
            int w = what;
            Bounds.none("6: a TREE", -2, i -> x.tree(i, w));
            Bounds.none("7: a VINE", -2, i -> x.vine(i, w));
            Bounds.none("8: a BEARER", -2, i -> x.bearer(i, w));
            Bounds.none("6: without an ISLE", -2, i -> y.tree(i, w));
            Bounds.none("7: without an ISLE", -2, i -> y.vine(i, w));
            Bounds.none("8: without an ISLE", -2, i -> y.bearer(i, w));
        }
        Bounds.none("10: without an ISLE", -2, i -> y.way(i, 0));
        Bounds.none("10: without an ISLE", -2, i -> y.way(0, i));
        Bounds.none("11: without an ISLE", -2, y::beside);
        Bounds.none("12: without an ISLE", -2, y::steers);
        Bounds.none("34: without an ISLE", -2, y::reach);
        Check.due("35: without an ISLE", y.lone(), -2);
        Check.due("9: without an ISLE", y.brooks(), -2);
    }

    /** 9: "PLACES, as bits"; I: "told twice it is one". */
    private static void brooks() {
        String first = "isle places 7 hours 1 weight 1 odds 0;";
        Check.due("9: none", Check.told(first).brooks(), 0);
        Check.due("9: all", Check.told(Bounds.FULL).brooks(), 127);
        for (int p = 0; p < 7; p++) {
            NeckRider x = Check.told(first + "brook at " + p + ";");
            Check.due("9: one", x.brooks(), 1 << p);
            Check.tell(x, first + "brook at " + p + ";brook at 3;brook at " + p + ";");
            Check.due("9: twice it is one", x.brooks(), 1 << p | 8);
        }
    }

    /** 10: "NONE: there is none; -2: there are none such". */
    private static void ways() {
        NeckRider x = Check.told(PlanTest.LINE);
        for (int p = 0; p < 7; p++) {
            for (int q = 0; q < 7; q++) Check.due("10: on a line", x.way(p, q), Math.abs(p - q));
        }
        for (int p : new int[] {0, 3, 6}) {
            Bounds.of("10: a PLACE", 0, 6, -2, i -> x.way(p, i));
            Bounds.of("10: a PLACE", 0, 6, -2, i -> x.way(i, p));
        }
        for (int i : Bounds.beyond(0, 6)) Check.due("10: neither", x.way(i, i), -2);
        Check.tell(x, Bounds.BARE);
        Check.due("10: to itself", x.way(1, 1), 0);
        Check.due("10: there is none", x.way(0, 1), -1);
        Check.due("10: there is none", x.way(1, 0), -1);
        Bounds.of("10: of two PLACES", 0, 1, -2, i -> x.way(i, 1));
        Check.tell(x, Bounds.FULL);
        Check.due("10: 5 by 0 and 6 alone", x.way(4, 5), 2);
        Check.due("10: both ways", x.way(5, 6), 1);
    }

    private static void besides() {
        NeckRider x = Check.told(Bounds.FULL);
        int[] due = {126, 5, 11, 21, 9, 65, 33};
        for (int p = 0; p < 7; p++) Check.due("11: beside " + p, x.beside(p), due[p]);
        Bounds.of("11: a PLACE", 0, 6, -2, x::beside);
        Check.tell(x, Bounds.BARE);
        Check.due("11: none", x.beside(0), 0);
        Check.due("11: none", x.beside(1), 0);
        Bounds.of("11: of two PLACES", 0, 1, -2, x::beside);
    }

    /** 12: "all fruit as told. NONE: none; -2 likewise". */
    private static void steering() {
        NeckRider x = Check.told(Bounds.FULL);
        int[] due = {2, 0, 0, 0, 2, 3, 4};
        for (int p = 0; p < 7; p++) Check.due("12: from " + p, x.steers(p), due[p]);
        Bounds.of("12: a PLACE", 0, 6, -2, x::steers);
        // Of 4 and 0, both a PATH from 3, it is as told that counts, not what is left.
        Check.due("17: eaten", x.fruit(2, 12), 0);
        Check.due("12: all fruit as told", x.steers(0), 2);
        x.grow(2, 0);
        Check.due("12: as told from now on", x.steers(0), 0);
        x.grow(2, 1);
        Check.due("12: one is enough", x.steers(0), 2);
        Check.tell(x, Bounds.BARE);
        Check.due("12: no TREE", x.steers(0), -1);
        Check.tell(x, Bounds.BARE + "tree at 0 fruit 0;tree at 1 fruit 9;");
        Check.due("12: no fruit and no WAY", x.steers(0), -1);
        Check.due("12: in its PLACE", x.steers(1), 1);
        Check.tell(x, PlanTest.LINE.replace("tree at 1 fruit 1;tree at 2 fruit 1;", ""));
        Check.due("12: six PATHS off", x.steers(0), 0);
        Check.tell(x, Bounds.BARE + "path 0 to 1;" + "tree at 1 fruit 0;".repeat(4)
            + "tree at 1 fruit 1;");
        Check.due("12: the fifth", x.steers(0), 4);
    }

    /** 34: "(it, too)". */
    private static void reaches() {
        NeckRider x = Check.told(PlanTest.LINE);
        for (int p = 0; p < 7; p++) Check.due("34: all", x.reach(p), 127);
        Bounds.of("34: a PLACE", 0, 6, -2, x::reach);
        Check.tell(x, "isle places 7 hours 1 weight 1 odds 0;path 6 to 1;path 1 to 3;path 0 to 5;");
        int[] due = {33, 74, 4, 74, 16, 33, 74};
        for (int p = 0; p < 7; p++) Check.due("34: from " + p, x.reach(p), due[p]);
        Check.tell(x, Bounds.BARE);
        Check.due("34: it alone", x.reach(1), 2);
        Bounds.of("34: of two PLACES", 0, 1, -2, x::reach);
    }

    /** 35: "as bits (0 without BEARERS). -2: there is no ISLE". */
    private static void lones() {
        String trees = "tree at 1 fruit 1;".repeat(5);
        Check.due("35: 0 without BEARERS", Check.told(Bounds.BARE + trees).lone(), 0);
        Check.due("35: no TREES", Check.told(Bounds.BARE + "bearer at 0 strength 1;").lone(), 0);
        Check.due("35: all of five", Check.told(Bounds.BARE + trees + "bearer at 0 strength 1;"
            + "bearer at 1 strength 9;").lone(), 31);
        Check.due("35: none of five", Check.told(Bounds.BARE + trees + "bearer at 1 strength 1;"
            + "bearer at 0 strength 9;").lone(), 0);
        Check.due("35: by a WAY", Check.told(Bounds.BARE + "path 1 to 0;" + trees
            + "bearer at 0 strength 1;").lone(), 0);
        Check.due("35: the fifth, bare", Check.told(Bounds.BARE + "tree at 0 fruit 1;".repeat(4)
            + "tree at 1 fruit 0;bearer at 0 strength 1;").lone(), 16);
    }

    /** 66: "NONE for others". */
    private static void counts() {
        NeckRider x = Check.told(Bounds.FULL);
        int[] full = {7, 12, 20, 10, 10, 5, 3, 5, 0, 31, 0, 0};
        NeckRider y = Check.told(Bounds.BARE);
        int[] bare = {2, 1, 1, 0, 0, 0, 0, 0, 0, 1, 0, 0};
        NeckRider z = new NeckRider();
        for (int what = 0; what < 12; what++) {
            Check.due("66: full, " + what, x.count(what), full[what]);
            Check.due("66: bare, " + what, y.count(what), bare[what]);
            Check.due("66: no ISLE, " + what, z.count(what), 0);
        }
        Bounds.of("66: what", 0, 11, -1, x::count);
        Bounds.of("66: what", 0, 11, -1, z::count);
        for (int h = 0; h < 12; h++) {
            x.toss(h);
            Check.due("66: acts", x.count(8), h + 1);
        }
        Check.feed(x, " ".repeat(800));
        Check.due("66: bytes", x.count(10), 800);
        for (int s = 0; s < 4; s++) {
            x.row(s, s, s % 2 == 0 ? 0 : 60);
            Check.due("66: SLOTS", x.count(11), s + 1);
            x.row(s, 0, 1);
            Check.due("66: in place of another", x.count(11), s + 1);
        }
        z.row(3, 3, 0);
        Check.due("66: a row without an ISLE", z.count(11), 1);
    }
}
