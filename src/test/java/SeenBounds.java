/** Promises 47 to 51 at their bounds. */
final class SeenBounds {
    private static final String TWELVE = "isle places 2 hours 12 weight 20 odds 1;";
    private static final String RIDDEN = Bounds.BARE + "bearer at 0 strength 1;";

    private SeenBounds() { }

    static void run() {
        slots();
        nothing();
        noIsle();
        twoEach();
        trees();
        fruits();
        widths();
        theSixtieth();
        allFit();
        noneFits();
        meals();
        bestTree();
        behindTheEnd();
        notFromHome();
        noActs();
        withoutBearers();
    }

    private static void due(NeckRider x, int slot, int fits, int rode, int began, int ask, int leaves) {
        Check.due("47: fits", x.fits(slot), fits);
        Check.due("48: rode", x.rode(slot), rode);
        Check.due("49: began", x.began(slot), began);
        Check.due("50: ask", x.ask(slot), ask);
        Check.due("51: leaves", x.leaves(slot), leaves);
    }

    private static void wrong(NeckRider x, int slot, int answer) {
        due(x, slot, answer, answer, answer, answer, answer);
    }

    /** "-2: there is no such SLOT". */
    private static void slots() {
        NeckRider x = Check.told(RideBounds.MEALS);
        for (int s = 0; s < 4; s++) x.row(s, s, 0);
        Bounds.of("47: a SLOT", 0, 3, -2, x::fits);
        Bounds.of("48: a SLOT", 0, 3, -2, x::rode);
        Bounds.of("49: a SLOT", 0, 3, -2, x::began);
        Bounds.of("50: a SLOT", 0, 3, -2, x::ask);
        Bounds.of("51: a SLOT", 0, 3, -2, x::leaves);
        for (int s = 0; s < 4; s++) due(x, s, 26, 8191, 3, 0, 14);
    }

    /** "-6: it has nothing", and "-2 is asked ahead of -6". */
    private static void nothing() {
        NeckRider x = Check.told(RideBounds.MEALS);
        for (int s = 0; s < 4; s++) {
            wrong(x, s, -6);
            x.row(s, 0, 61);
            x.row(s, 0, -1);
            x.row(s, 4, 2);
            wrong(x, s, -6);
        }
        for (int s : Bounds.beyond(0, 3)) wrong(x, s, -2);
        x.row(2, 0, 0);
        wrong(x, 1, -6);
        wrong(x, 3, -6);
        due(x, 2, 26, 8191, 3, 0, 14);
    }

    /** "-2: there is .. no ISLE", ahead of -6. */
    private static void noIsle() {
        NeckRider x = new NeckRider();
        for (int s = -1; s < 5; s++) wrong(x, s, -2);
        x.row(0, 0, 0);
        x.row(1, 0, 2);
        for (int s = -1; s < 5; s++) wrong(x, s, -2);
        Check.tell(x, RIDDEN);
        due(x, 0, 4, 3, 3, -1, 4);
        Check.tell(x, " ");
        wrong(x, 0, -2);
    }

    /** "not two each": -2, else as many pairs as stand there. */
    private static void twoEach() {
        NeckRider x = Check.told(RideBounds.MEALS);
        for (int n = 0; n <= 60; n++) {
            x.row(0, 3, n);
            if (n % 2 == 1) wrong(x, 0, -2);
            else if (n == 0) due(x, 0, 26, 8191, 3, 0, 14);
            else due(x, 0, 4, 7680, 1, 1, 1);
        }
    }

    /** "a number is none such": TREES of this ISLE. */
    private static void trees() {
        for (int trees = 1; trees <= 5; trees++) {
            NeckRider x = Check.told(RIDDEN + "tree at 1 fruit 0;".repeat(trees));
            x.row(0, 3, 2);
            Bounds.of("47: a TREE of " + trees, 0, trees - 1, -2, t -> {
                x.write(0, 0, t);
                return x.fits(0);
            });
            x.write(0, 0, trees - 1);
            due(x, 0, 4, 3, 3, -1, 4);
            x.write(0, 0, trees);
            wrong(x, 0, -2);
            x.write(0, 0, -1);
            wrong(x, 0, -2);
        }
        NeckRider x = Check.told(RIDDEN);
        x.row(0, 3, 2);
        wrong(x, 0, -2);
    }

    /** "fruit 0 .. 9", told or not. */
    private static void fruits() {
        NeckRider x = Check.told(RideBounds.MEALS);
        x.row(0, 3, 2);
        x.write(0, 0, 1);
        Bounds.of("47: fruit", 0, 9, -2, f -> {
            x.write(0, 1, f);
            return x.fits(0);
        });
        for (int f = 0; f < 6; f++) {
            x.write(0, 1, f);
            due(x, 0, 0, 0, 0, -1, 0);
        }
        x.write(0, 1, 10);
        wrong(x, 0, -2);
        x.write(0, 1, -1);
        wrong(x, 0, -2);
    }

    /** Numbers of each WIDTH, as they are cut to it. */
    private static void widths() {
        long[] far = {Long.MIN_VALUE, Long.MIN_VALUE + 1, Long.MAX_VALUE, 1L << 32, (1L << 32) + 1,
            -(1L << 32), 1L << 31, -1L << 31, 65536, 65537, 32768, 256, 257, 255, 128, 127, -1, -128,
            -129, -256, -255, 9, 10, 1L << 62};
        for (int width = 0; width < 4; width++) {
            NeckRider x = Check.told(RideBounds.MEALS);
            for (long v : far) {
                long cut = width == 0 ? (byte) v : width == 1 ? (short) v : width == 2 ? (int) v : v;
                x.row(0, width, 2);
                Check.due("70: write " + v, x.write(0, 1, v), 0);
                boolean such = cut >= 0 && cut <= 9;
                int fits = !such ? -2 : cut == 0 ? 4 : cut == 9 ? 14 : 1;
                Check.due("47: fruit " + v + ", width " + width, x.fits(0), fits);
                x.row(0, width, 2);
                x.write(0, 0, v);
                fits = cut == 0 ? 4 : cut == 1 ? 0 : -2;
                Check.due("47: tree " + v + ", width " + width, x.fits(0), fits);
            }
        }
    }

    /** Rows of 60 numbers: each of them is looked at. */
    private static void theSixtieth() {
        NeckRider x = Check.told(RideBounds.MEALS);
        for (int i = 0; i < 60; i++) {
            x.row(0, 0, 60);
            due(x, 0, 4, 7680, 1, 1, 1);
            x.write(0, i, 1);
            // Of a pair 0 0 is made 1 0, or 0 1: the second tree is never bare, nor both is the first.
            due(x, 0, 0, 0, 0, -1, 0);
            x.write(0, i, i % 2 == 0 ? 2 : 10);
            wrong(x, 0, -2);
            x.write(0, i, -1);
            wrong(x, 0, -2);
        }
    }

    /** VI: "an HOUR h (0 .. hours) and a PLACE". */
    private static void allFit() {
        NeckRider x = Check.told(Bounds.FULL);
        x.row(3, 3, 0);
        Check.due("47: 13 moments of 7 PLACES", x.fits(3), 91);
        Check.due("48: all HOURS", x.rode(3), 8191);
        Check.due("49: all PLACES", x.began(3), 127);
        for (int n = 1; n <= 12; n++) {
            Check.tell(x, "isle places 2 hours " + n + " weight 1 odds 0;bearer at 0 strength 1;");
            due(x, 3, 2 * n + 2, (1 << n + 1) - 1, 3, -1, 2 * n + 2);
        }
    }

    private static void noneFits() {
        NeckRider x = Check.told(RideBounds.MEALS);
        Check.seen(x, 0, 0, 5, 0, 6);
        due(x, 0, 0, 0, 0, -1, 0);
        Check.seen(x, 0, 0, 5, 0, 5);
        due(x, 0, 1, 16, 1, -1, 1);
        Check.seen(x, 0, 1, 5);
        due(x, 0, 0, 0, 0, -1, 0);
    }

    /** From 0 he eats 12 times, from 1 never. */
    private static void meals() {
        NeckRider x = Check.told(RideBounds.MEALS);
        for (int f = 1; f < 9; f++) {
            Check.seen(x, 0, 0, f);
            due(x, 0, 1, 1 << 9 - f, 1, -1, 1);
        }
        Check.seen(x, 0, 0, 0);
        due(x, 0, 4, 7680, 1, 1, 1);
        Check.seen(x, 0, 1, 6);
        due(x, 0, 1, 4096, 1, -1, 1);
        Check.seen(x, 0, 1, 9);
        due(x, 0, 23, 8191, 3, 0, 14);
        Check.seen(x, 0, 1, 9, 0, 9);
        due(x, 0, 14, 8191, 3, -1, 14);
        Check.seen(x, 0, 1, 9, 0, 0);
        due(x, 0, 1, 512, 1, -1, 1);
    }

    /** 50: "leaves fewest of these at worst, if fewer than now, the first of several". */
    private static void bestTree() {
        // From 0 he eats the fifth alone: 14 are left at worst; of the others all 26.
        NeckRider x = Check.told(TWELVE + "tree at 1 fruit 0;".repeat(4)
            + "tree at 0 fruit 9;bearer at 0 strength 1;");
        x.row(0, 0, 0);
        due(x, 0, 26, 8191, 3, 4, 14);
        // Two like trees, eaten from 0 and 1: the first of several.
        Check.tell(x, TWELVE
            + "tree at 0 fruit 0;tree at 0 fruit 9;tree at 1 fruit 9;bearer at 0 strength 1;");
        due(x, 0, 26, 8191, 3, 1, 14);
        // At worst, not by how many: the first parts 39 into ten, 27 of them alike (9 from 1 and 2
        // in all hours, and at first from 0), the second into 16 and 23 alone.
        Check.tell(x, "isle places 3 hours 12 weight 1 odds 0;path 1 to 2;tree at 0 fruit 9;"
            + "tree at 1 fruit 1;bearer at 0 strength 99;");
        due(x, 0, 39, 8191, 7, 1, 23);
        // The next tree, bare in all of them, tells nothing, and takes nothing from the first.
        Check.tell(x, TWELVE + "tree at 0 fruit 9;tree at 0 fruit 0;tree at 1 fruit 0;"
            + "bearer at 0 strength 1;");
        due(x, 0, 26, 8191, 3, 0, 14);
        Check.tell(x, TWELVE + "tree at 0 fruit 0;tree at 0 fruit 9;tree at 1 fruit 0;"
            + "bearer at 0 strength 1;");
        due(x, 0, 26, 8191, 3, 1, 14);
        // One fewer is fewer; and one fewer again, of the second.
        Check.tell(x, "isle places 2 hours 1 weight 1 odds 0;tree at 0 fruit 1;"
            + "bearer at 0 strength 1;");
        due(x, 0, 4, 3, 3, 0, 3);
        Check.tell(x, "isle places 3 hours 2 weight 1 odds 0;path 1 to 2;tree at 0 fruit 1;"
            + "tree at 1 fruit 1;bearer at 0 strength 9;");
        due(x, 0, 9, 7, 7, 1, 6);
        Check.tell(x, "isle places 3 hours 2 weight 1 odds 0;path 1 to 2;tree at 1 fruit 1;"
            + "tree at 0 fruit 1;bearer at 0 strength 9;");
        due(x, 0, 9, 7, 7, 0, 6);
        // Ten amounts, 9 .. 0, of one each.
        Check.tell(x, "isle places 2 hours 9 weight 1 odds 0;path 0 to 1;tree at 0 fruit 9;"
            + "bearer at 0 strength 9;");
        x.row(0, 0, 0);
        // From 1 a path first: 9 9 8 .. 1; from 0: 9 8 .. 0. Of 9 there are three.
        due(x, 0, 20, 1023, 3, 0, 3);
    }

    /** VI: "ahead of that HOUR so much is left", OVER or not. */
    private static void behindTheEnd() {
        NeckRider x = Check.told(RideBounds.STEP.replace("hours 1", "hours 12")
            .replace("strength 2", "strength 1"));
        Check.seen(x, 0, 0, 1);
        due(x, 0, 14, 8191, 3, -1, 14);
        Check.seen(x, 0, 0, 0);
        due(x, 0, 12, 8190, 2, -1, 12);
    }

    /** VI: "a PLACE at which he began on BEARER 0 (his home or not)". */
    private static void notFromHome() {
        // BEARER 0, of 1, is strong; he of 0 is not, and is not the one on whom he began there.
        NeckRider x = Check.told("isle places 3 hours 2 weight 5 odds 0;path 0 to 2;"
            + "tree at 2 fruit 1;bearer at 1 strength 9;bearer at 0 strength 1;");
        Check.seen(x, 0, 0, 0);
        due(x, 0, 3, 0b110, 0b101, -1, 3);
        // Where he falls, those at home there carry on; BEARER 0 is not of them, home or not.
        Check.tell(x, "isle places 3 hours 3 weight 5 odds 0;path 0 to 1;path 1 to 2;"
            + "tree at 2 fruit 1;bearer at 1 strength 1;bearer at 0 strength 99;");
        Check.seen(x, 0, 0, 0);
        // From 0: he falls in 1, where nobody else is at home. From 1: in 2. From 2 he eats.
        due(x, 0, 3, 0b1110, 0b100, -1, 3);
    }

    private static void noActs() {
        NeckRider x = Check.told(RideBounds.WINE + "tree at 1 fruit 1;");
        Check.seen(x, 0, 0, 0);
        due(x, 0, 11 + 12, 8190, 3, -1, 23);
        x.offer(0);
        Check.due("18: he sleeps", x.does(0), 1);
        due(x, 0, 11 + 12, 8190, 3, -1, 23);
    }

    /** VI: there is no BEARER 0 on whom he could have begun. */
    private static void withoutBearers() {
        NeckRider x = Check.told(Bounds.BARE + "tree at 0 fruit 1;");
        x.row(0, 0, 0);
        due(x, 0, 0, 0, 0, -1, 0);
        Check.seen(x, 0, 0, 1);
        due(x, 0, 0, 0, 0, -1, 0);
        Check.seen(x, 0, 1, 1);
        wrong(x, 0, -2);
        wrong(x, 1, -6);
    }
}
