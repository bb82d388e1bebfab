import java.util.List;
import java.util.function.ToLongFunction;

/** Promises 58 to 62, 65, 67 and 68 at their bounds: each refused call leaves all as it was. */
final class ActsBounds {
    /** He drinks and sleeps where a brook is; the other place is a path off. */
    private static final String ISLE = "isle places 2 hours 12 weight 3 odds 5;path 0 to 1;"
        + "tree at 1 fruit 9;vine at 0 ripe 0;vine at 1 ripe 3;brook at 0;bearer at 0 strength 50;"
        + "bearer at 1 strength 40;";

    private static final String FOUR_AT_ZERO = "isle places 6 hours 3 weight 9 odds 9;path 0 to 5;"
        + "tree at 0 fruit 3;tree at 5 fruit 1;tree at 0 fruit 2;bearer at 0 strength 3;"
        + "bearer at 0 strength 3;bearer at 0 strength 3;bearer at 0 strength 3;";

    private ActsBounds() { }

    static void run() {
        noIsle();
        hours();
        places();
        anActInIt();
        missingAheadOfRefused();
        anActAllTheSame();
        behindTheEnd();
        full();
        notAtHomeInZero();
        eachVineOnce();
        nothingLeftBehind();
        undoEmpty();
        anewEmpty();
        grown();
        grownStays();
        growRefused();
        imageBounds();
        backRefused();
        eachImage();
        imageIsACopy();
        imageAfterFault();
    }

    /** "-2: there is no ISLE", and "HOURS": there are none. */
    private static void noIsle() {
        NeckRider x = new NeckRider();
        x.row(0, 0, 2);
        Check.feed(x, "isle");
        for (int h : new int[] {-1, 0, 1, 12, Bounds.LEAST, Bounds.MOST}) {
            Bounds.refused("58: no ISLE", x, -2, () -> x.offer(h));
            Bounds.refused("59: no ISLE", x, -2, () -> x.carry(h, 0));
            Bounds.refused("59: no ISLE", x, -2, () -> x.carry(0, h));
            Bounds.refused("60: no ISLE", x, -2, () -> x.toss(h));
            Bounds.refused("65: no ISLE", x, -2, () -> x.grow(h, 0));
            Bounds.refused("65: no ISLE", x, -2, () -> x.grow(0, h));
        }
        Bounds.refused("61: no ISLE", x, -2, x::undo);
        Bounds.refused("62: no ISLE", x, -2, x::anew);
    }

    /** 58, 59, 60: "-2: there is none such". */
    private static void hours() {
        for (int n : new int[] {1, 2, 12}) {
            NeckRider x = Check.told(ISLE.replace("hours 12", "hours " + n));
            for (int h : Bounds.beyond(0, n - 1)) {
                Bounds.refused("58: HOUR " + h + " of " + n, x, -2, () -> x.offer(h));
                Bounds.refused("59: HOUR " + h + " of " + n, x, -2, () -> x.carry(h, 1));
                Bounds.refused("60: HOUR " + h + " of " + n, x, -2, () -> x.toss(h));
            }
            Check.due("66: not an act of them", x.count(8), 0);
            for (int h : new int[] {0, n - 1}) {
                // In 1, where he comes in HOUR 1, the wine is ripe from HOUR 3 on.
                Check.due("58: HOUR " + h + " of " + n, x.offer(h), h == 1 ? 0 : 1);
                x.anew();
                Check.due("59: HOUR " + h + " of " + n, x.carry(h, 1), 0);
                x.anew();
                Check.due("60: HOUR " + h + " of " + n, x.toss(h), 0);
                x.anew();
            }
        }
    }

    /** 59: "there are none such". */
    private static void places() {
        for (int n : new int[] {2, 7}) {
            NeckRider x = Check.told(ISLE.replace("places 2", "places " + n));
            for (int p : Bounds.beyond(0, n - 1)) {
                Bounds.refused("59: PLACE " + p + " of " + n, x, -2, () -> x.carry(0, p));
                Bounds.refused("59: PLACE " + p + " of " + n, x, -2, () -> x.carry(11, p));
                Bounds.refused("59: neither", x, -2, () -> x.carry(12, p));
            }
            for (int p = 0; p < n; p++) {
                x.offer(0);
                Check.due("59: PLACE " + p + " of " + n, x.carry(1, p), p == 1 ? 1 : 0);
                Check.due("13: where he is then", x.at(2), p == 1 ? 1 : 0);
                Check.due("66: an act all the same", x.count(8), 2);
                x.anew();
            }
        }
    }

    /** "-5: there is an act in it", of whatever kind, and whether it works or not. */
    private static void anActInIt() {
        for (int h : new int[] {0, 2, 11}) {
            for (int kind = 0; kind < 4; kind++) {
                NeckRider x = Check.told(ISLE);
                if (kind == 0) x.offer(h);
                else if (kind == 1) x.carry(h, 0);
                else if (kind == 2) x.carry(h, 1);
                else x.toss(h);
                Bounds.refused("58: an act in it", x, -5, () -> x.offer(h));
                Bounds.refused("59: an act in it", x, -5, () -> x.carry(h, 0));
                Bounds.refused("59: an act in it", x, -5, () -> x.carry(h, 1));
                Bounds.refused("60: an act in it", x, -5, () -> x.toss(h));
                Check.due("66: one act", x.count(8), 1);
                Check.due("61: it is taken back", x.undo(), 0);
                Check.due("60: free again", x.toss(h), 0);
            }
        }
    }

    /** I: "-2 is asked ahead of -5". */
    private static void missingAheadOfRefused() {
        NeckRider x = Check.told(ISLE);
        x.offer(0);
        x.toss(11);
        Bounds.refused("59: no such PLACE, an act in it", x, -2, () -> x.carry(0, 2));
        Bounds.refused("59: no such PLACE, an act in it", x, -2, () -> x.carry(11, -1));
        Bounds.refused("59: no such HOUR", x, -2, () -> x.carry(12, 0));
        Bounds.refused("65: no such TREE, acts", x, -2, () -> x.grow(1, 0));
        Bounds.refused("65: no such fruit, acts", x, -2, () -> x.grow(0, 10));
        Bounds.refused("65: neither, acts", x, -2, () -> x.grow(-1, -1));
        Bounds.refused("65: acts", x, -5, () -> x.grow(0, 9));
    }

    /** 58: "(it is an act all the same)"; IV: "the HOUR goes on as without". */
    private static void anActAllTheSame() {
        NeckRider x = Check.told(ISLE.replace("ripe 0", "ripe 12"));
        String without = State.ofIsle(x).replace("count 8 = 0", "count 8 = 1");
        for (int h = 0; h < 3; h++) {
            Check.due("58: no VINE is ripe", x.offer(h), 0);
            State.same("58: as without", State.ofIsle(x), without);
            x.undo();
            Check.due("59: he is not DRUNK", x.carry(h, 1), 0);
            State.same("59: as without", State.ofIsle(x), without);
            x.undo();
            Check.due("60: he is not DRUNK", x.toss(h), 0);
            State.same("60: as without", State.ofIsle(x), without);
            x.undo();
        }
        // DRUNK, but where he is already, and not in a BROOK.
        Check.tell(x, ISLE.replace("brook at 0", "brook at 1"));
        x.offer(0);
        without = State.ofIsle(x).replace("count 8 = 1", "count 8 = 2");
        Check.due("59: to where he is there is no PATH", x.carry(1, 0), 0);
        State.same("59: as without", State.ofIsle(x), without);
        x.undo();
        Check.due("60: in no BROOK", x.toss(1), 0);
        State.same("60: as without", State.ofIsle(x), without);
        x.undo();
        Check.due("58: DRUNK already", x.offer(1), 0);
        State.same("58: as without", State.ofIsle(x), without);
    }

    /** Behind OVER there is nobody to drink, to be carried or thrown; the acts are held. */
    private static void behindTheEnd() {
        NeckRider x = Check.told(ISLE);
        x.offer(0);
        Check.due("60: thrown", x.toss(1), 1);
        Check.due("58: behind it", x.offer(2), 0);
        Check.due("59: behind it", x.carry(3, 1), 0);
        Check.due("60: behind it", x.toss(4), 0);
        Check.due("66: acts", x.count(8), 5);
        Check.due("20: over as it was", x.over(), 1);
        Check.due("58: behind it, an act in it", x.offer(2), -5);
    }

    /** As many acts as HOURS; taken back one by one, the latest first. */
    private static void full() {
        NeckRider x = Check.told(ISLE);
        String[] before = new String[13];
        for (int i = 0; i < 12; i++) {
            int h = i * 5 % 12;
            before[i] = State.ofIsle(x);
            if (i % 3 == 0) x.offer(h);
            else if (i % 3 == 1) x.carry(h, i % 2);
            else x.toss(h);
            Check.due("66: acts", x.count(8), i + 1);
        }
        for (int h = 0; h < 12; h++) {
            int hour = h;
            Bounds.refused("58: each has one", x, -5, () -> x.offer(hour));
            Bounds.refused("59: each has one", x, -5, () -> x.carry(hour, 1));
            Bounds.refused("60: each has one", x, -5, () -> x.toss(hour));
        }
        for (int i = 11; i >= 0; i--) {
            Check.due("61: how many there are", x.undo(), i);
            State.same("61: as it was ahead of it", State.ofIsle(x), before[i]);
        }
        for (int n = 0; n <= 12; n++) {
            for (int h = 0; h < n; h++) x.toss(11 - h);
            Check.due("62: how many there were", x.anew(), n);
            State.same("62: as without", State.ofIsle(x), before[0]);
        }
    }

    /** Taken back, he is again where BEARER 0 is at home, which is not 0. */
    private static void notAtHomeInZero() {
        String text = ISLE.replace("bearer at 0", "bearer at 1").replace("fruit 9", "fruit 0")
            + "brook at 1;";
        NeckRider x = Check.told(text);
        String before = State.ofIsle(x);
        for (int round = 0; round < 2; round++) {
            Check.due("58: wine in 1, from HOUR 3 on", x.offer(4), 1);
            Check.due("59: to 0", x.carry(5, 0), 1);
            Check.due("60: a BROOK, too", x.toss(6), 1);
            Check.due("20: over", x.over(), 6);
            if (round == 0) for (int i = 2; i >= 0; i--) Check.due("61: undo", x.undo(), i);
            else Check.due("62: anew", x.anew(), 3);
            Check.due("13: at home", x.at(0), 1);
            State.same("61: as it was", State.ofIsle(x), before);
        }
    }

    /** 58: "not drunk up": of VINES in one PLACE each is drunk up once, whichever is ripe first. */
    private static void eachVineOnce() {
        String isle = "isle places 2 hours 12 weight 1 odds 0;path 0 to 1;vine at 0 ripe 2;"
            + "vine at 1 ripe 0;vine at 0 ripe 0;bearer at 0 strength 9;";
        NeckRider x = Check.told(isle);
        Check.due("58: the later of them is ripe first", x.offer(0), 1);
        Check.due("58: the first of them, in the first HOUR when he is sober", x.offer(3), 1);
        Check.due("58: both are drunk up", x.offer(6), 0);
        Check.due("58: and stay so", x.offer(9), 0);
        Check.due("19: DRUNK by the second", x.drunk(5), 1);
        Check.due("19: not by a third", x.drunk(6), 0);
        NeckRider y = Check.told(isle.replace("ripe 2", "ripe 4"));
        Check.due("58: the ripe one", y.offer(0), 1);
        Check.due("58: the other one is not ripe", y.offer(3), 0);
        Check.due("58: its HOUR", y.offer(4), 1);
        Check.due("58: both are drunk up", y.offer(7), 0);
        NeckRider z = Check.told(isle.replace("ripe 2", "ripe 0").replace("at 1", "at 0"));
        for (int hour : new int[] {0, 3, 6}) Check.due("58: three in " + hour, z.offer(hour), 1);
        Check.due("58: three are drunk up", z.offer(9), 0);
    }

    /** What is tried out, or read and found at FAULT, is not met by the calls behind it. */
    private static void nothingLeftBehind() {
        String text = ISLE.replace("bearer at 0", "bearer at 1")
            .replace("places 2", "places 3") + "tree at 1 fruit 0;tree at 2 fruit 1;";
        List<ToLongFunction<NeckRider>> calls = List.of(x -> x.lone(), x -> x.offer(3),
            x -> x.at(0), x -> x.carry(4, 0), x -> x.at(5), x -> x.toss(5), x -> x.over(), x -> x.undo(),
            x -> x.over(), x -> x.at(0), x -> x.at(12), x -> x.anew(), x -> x.at(0), x -> x.at(4),
            x -> x.grow(1, 9), x -> x.at(0), x -> x.grow(3, 0), x -> x.eats(), x -> x.image(0), x -> x.row(0, 0, 0), x -> x.fits(0),
            x -> x.rode(0), x -> x.began(0), x -> x.ask(0), x -> x.leaves(0), x -> x.row(0, 0, 2),
            x -> x.fits(0), x -> x.write(0, 0, 1), x -> x.fits(0), x -> x.write(0, 0, 2),
            x -> x.fits(0), x -> x.from(0), x -> x.from(1), x -> x.best(), x -> x.needs(0),
            x -> x.needs(1), x -> x.drops(), x -> x.rid(), x -> x.ways(), x -> x.plan(3),
            x -> x.plan(4), x -> x.bend(), x -> x.bent(0), x -> x.bent(1), x -> x.wine(),
            x -> x.dam(0), x -> x.dam(1), x -> x.dams(), x -> x.back(0), x -> x.on(12), x -> x.left(5));
        List<ToLongFunction<NeckRider>> between = List.of(x -> Check.tell(x, "!"),
            x -> Check.tell(x, Bounds.FULL + "!"), x -> Check.tell(x, Bounds.BARE + "!"),
            x -> Check.tell(x, FOUR_AT_ZERO + "path 7"), x -> x.needs(0), x -> x.needs(1),
            x -> x.drops(), x -> x.bent(0), x -> x.bent(1), x -> x.dam(0), x -> x.dam(1),
            x -> x.wine(), x -> x.from(1), x -> x.fits(0), x -> x.drawn(1, 1), x -> x.luck(1, 20),
            x -> x.rid());
        for (int i = 0; i < between.size(); i++) {
            NeckRider x = Check.told(text);
            NeckRider y = Check.told(text);
            for (int k = 0; k < calls.size(); k++) {
                between.get(i).applyAsLong(x);
                Check.due("4: behind " + i + ", call " + k, calls.get(k).applyAsLong(x),
                    calls.get(k).applyAsLong(y));
            }
        }
    }

    /** 61: "-2: there is no ISLE; -5: there is none". */
    private static void undoEmpty() {
        for (String text : new String[] {ISLE, Bounds.BARE, Bounds.FULL}) {
            NeckRider x = Check.told(text);
            Bounds.refused("61: there is none", x, -5, x::undo);
            x.toss(0);
            Check.due("61: how many there are", x.undo(), 0);
            Bounds.refused("61: there is none", x, -5, x::undo);
            x.toss(0);
            x.anew();
            Bounds.refused("61: there is none", x, -5, x::undo);
            x.toss(0);
            Check.tell(x, text);
            Bounds.refused("61: of another ISLE, none", x, -5, x::undo);
        }
    }

    private static void anewEmpty() {
        NeckRider x = Check.told(ISLE);
        Bounds.refused("62: there were none", x, 0, x::anew);
        x.offer(0);
        Check.due("62: one", x.anew(), 1);
        Bounds.refused("62: again there were none", x, 0, x::anew);
        State.same("62: as told", State.ofIsle(x), State.ofIsle(Check.told(ISLE)));
    }

    /** 65: "fruit of a TREE is n (0 .. 9) as told from now on: what it was". */
    private static void grown() {
        NeckRider x = Check.told(ISLE);
        int was = 9;
        for (int n : new int[] {9, 0, 1, 8, 9, 5, 5, 0, 0}) {
            Check.due("65: what it was", x.grow(0, n), was);
            State.same("65: as told from now on", State.ofIsle(x),
                State.ofIsle(Check.told(ISLE.replace("fruit 9", "fruit " + n))));
            was = n;
        }
        x = Check.told(Bounds.BARE + "tree at 0 fruit 3;".repeat(5) + "bearer at 0 strength 1;");
        for (int t = 0; t < 5; t++) {
            Check.due("65: of TREE " + t, x.grow(t, t + 4), 3);
            Check.due("6: it is so", x.tree(t, 1), t + 4);
            for (int other = t + 1; other < 5; other++) Check.due("6: no other", x.tree(other, 1), 3);
        }
        x.offer(0);
        x.undo();
        Check.due("65: none that is not taken back", x.grow(4, 0), 8);
    }

    /** Neither undo() nor anew() takes back what has grown; another text does. */
    private static void grownStays() {
        NeckRider x = Check.told(ISLE);
        x.grow(0, 4);
        String grown = State.ofIsle(x);
        x.offer(0);
        x.undo();
        State.same("61: acts alone", State.ofIsle(x), grown);
        x.offer(0);
        x.toss(1);
        x.anew();
        State.same("62: acts alone", State.ofIsle(x), grown);
        Check.tell(x, ISLE);
        State.same("4: as told", State.ofIsle(x), State.ofIsle(Check.told(ISLE)));
        // What he eats is not what is told.
        Check.due("17: eaten", x.fruit(0, 12), 0);
        Check.due("6: as told", x.tree(0, 1), 9);
        Check.due("65: what it was", x.grow(0, 9), 9);
    }

    /** 65: "-2: there are none such; -5: there are acts that are not taken back". */
    private static void growRefused() {
        NeckRider x = Check.told(ISLE + "tree at 0 fruit 0;");
        for (int t : Bounds.beyond(0, 1)) {
            Bounds.refused("65: TREE " + t, x, -2, () -> x.grow(t, 3));
        }
        for (int n : Bounds.beyond(0, 9)) {
            Bounds.refused("65: fruit " + n, x, -2, () -> x.grow(0, n));
            Bounds.refused("65: fruit " + n, x, -2, () -> x.grow(1, n));
        }
        for (int h : new int[] {0, 11}) {
            x.toss(h);
            for (int n : new int[] {0, 1, 9}) {
                Bounds.refused("65: an act", x, -5, () -> x.grow(0, n));
                Bounds.refused("65: an act", x, -5, () -> x.grow(1, n));
            }
            x.undo();
        }
        NeckRider bare = Check.told(Bounds.BARE);
        for (int t : Bounds.beyond(0, -1)) {
            Bounds.refused("65: of no TREES", bare, -2, () -> bare.grow(t, 3));
        }
        bare.toss(0);
        Bounds.refused("65: of no TREES, acts", bare, -2, () -> bare.grow(0, 3));
    }

    /** 67, 68: "IMAGE k (0 .. 2)", "-2: no such k". */
    private static void imageBounds() {
        for (String text : new String[] {"", ISLE}) {
            NeckRider x = new NeckRider();
            Check.tell(x, text);
            for (int k : Bounds.beyond(0, 2)) {
                Bounds.refused("67: IMAGE " + k, x, -2, () -> x.image(k));
                Bounds.refused("68: IMAGE " + k, x, -2, () -> x.back(k));
            }
            for (int k = 0; k < 3; k++) {
                int image = k;
                Bounds.refused("68: it has nothing", x, -6, () -> x.back(image));
                Bounds.refused("67: keeping changes nothing", x, 0, () -> x.image(image));
                Bounds.refused("68: it has just this", x, 0, () -> x.back(image));
            }
            for (int k : Bounds.beyond(0, 2)) {
                Bounds.refused("67: IMAGE " + k, x, -2, () -> x.image(k));
                Bounds.refused("68: IMAGE " + k, x, -2, () -> x.back(k));
            }
        }
    }

    /** 68: "-6: it has nothing", one kept or two. */
    private static void backRefused() {
        for (int kept = 0; kept < 8; kept++) {
            NeckRider x = Check.told(ISLE);
            x.offer(0);
            for (int k = 0; k < 3; k++) if ((kept >> k & 1) == 1) x.image(k);
            x.undo();
            for (int k = 0; k < 3; k++) {
                int image = k;
                if ((kept >> k & 1) == 1) {
                    Check.due("68: kept", x.back(k), 0);
                    Check.due("66: its act", x.count(8), 1);
                } else {
                    Bounds.refused("68: IMAGE " + k + " has nothing", x, -6, () -> x.back(image));
                }
            }
        }
    }

    /** Three of them, each for itself; one is kept anew in place of what it had. */
    private static void eachImage() {
        NeckRider x = new NeckRider();
        x.image(1);
        Check.tell(x, ISLE);
        x.offer(0);
        x.toss(1);
        x.image(2);
        String acted = State.ofIsle(x);
        x.anew();
        x.grow(0, 1);
        x.image(0);
        String grown = State.ofIsle(x);
        String none = State.ofIsle(new NeckRider());
        for (int round = 0; round < 2; round++) {
            Check.due("68: back", x.back(2), 0);
            State.same("68: with its acts", State.ofIsle(x), acted);
            Bounds.refused("65: its acts are not taken back", x, -5, () -> x.grow(0, 2));
            Bounds.refused("58: its act is in it", x, -5, () -> x.offer(1));
            Check.due("68: back", x.back(1), 0);
            State.same("68: there was no ISLE", State.ofIsle(x), none);
            Bounds.refused("61: there was no ISLE", x, -2, x::undo);
            Bounds.refused("62: there was no ISLE", x, -2, x::anew);
            Bounds.refused("58: there was no ISLE", x, -2, () -> x.offer(0));
            Bounds.refused("65: there was no ISLE", x, -2, () -> x.grow(0, 0));
            Bounds.refused("47: there was no ISLE", x, -2, () -> x.fits(0));
            Check.due("68: back", x.back(0), 0);
            State.same("68: as it had grown", State.ofIsle(x), grown);
        }
        x.image(2);
        x.back(1);
        x.back(2);
        State.same("67: in place of what it had", State.ofIsle(x), grown);
    }

    /** What is done behind image() is not done to it, nor what is done behind back(). */
    private static void imageIsACopy() {
        NeckRider x = Check.told(ISLE);
        x.carry(5, 1);
        x.offer(0);
        x.image(0);
        String kept = State.ofIsle(x);
        for (int round = 0; round < 3; round++) {
            x.undo();
            x.toss(3);
            if (round > 0) {
                x.anew();
                x.grow(0, round);
            }
            if (round > 1) Check.tell(x, Bounds.FULL);
            x.row(round, 0, round);
            Check.feed(x, " ");
            Check.due("68: back", x.back(0), 0);
            State.same("68: as it was", State.ofIsle(x), kept);
            Check.due("68: SLOTS stay", x.count(11), round + 1);
            Check.due("68: the TAPE stays", x.count(10), round > 1 ? 1 : round + 1);
        }
        Check.due("61: the latest is the drink", x.undo(), 1);
        Check.due("58: free again", x.offer(0), 1);
        Check.due("59: this one is not", x.carry(5, 0), -5);
    }

    /** IMAGES keep no FAULT. */
    private static void imageAfterFault() {
        NeckRider x = Check.told(ISLE);
        Check.tell(x, "!");
        x.image(0);
        Check.tell(x, ISLE + "brook at 9");
        int place = x.fault(1);
        Check.due("5: ahead of back()", x.fault(0), 2);
        x.back(0);
        Check.due("5: behind it", x.fault(0), 2);
        Check.due("5: its place", x.fault(1), place);
    }
}
