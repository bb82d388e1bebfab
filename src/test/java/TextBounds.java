import java.util.function.ToIntFunction;

/** Promises 1 to 5 at their bounds; what stands in quotes is the document's. */
final class TextBounds {
    private static final String FIRST = "isle places 3 hours 2 weight 1 odds 0;";
    private static final int BLANKS = 0x20202020;

    private TextBounds() { }

    static void run() {
        newObject();
        feedOrder();
        feedFull();
        endBounds();
        endRefused();
        isleOfNothing();
        isleFaulty();
        isleLeavesTheRest();
        isleAfterAnother();
        numbersOfLines();
        places();
        counts();
        everyByte();
        everyLetter();
        everyEnd();
        fullTape();
        firstByPlace();
        faultBounds();
    }

    private static void fault(String what, NeckRider x, int number, int place) {
        Check.due("4: " + what, x.isle(), -4);
        Check.due("5: its number, " + what, x.fault(0), number);
        Check.due("5: its place, " + what, x.fault(1), place);
    }

    private static void fault(String text, int number, int place) {
        NeckRider x = new NeckRider();
        Check.feed(x, text);
        fault(text, x, number, place);
    }

    /** 1: "No ISLE", and nothing else. */
    private static void newObject() {
        NeckRider x = new NeckRider();
        State.same("1: as the Model", State.of(x), State.of(new Model()));
        for (int k = 0; k < 3; k++) Check.due("1: no image " + k, x.back(k), -6);
        for (int s = 0; s < 4; s++) Check.due("1: no row " + s, x.write(s, 0, 0), -6);
        Check.due("1: no bytes", x.end(1), -1);
        Check.due("1: no fault", x.fault(0), 0);
        Check.due("1: no fault's place", x.fault(1), -1);
    }

    /** 2: "Twenty bytes come behind the TAPE, four of each number, the highest first". */
    private static void feedOrder() {
        for (int feeds = 0; feeds < 40; feeds += 13) {
            for (int k = 0; k < 20; k++) {
                NeckRider x = new NeckRider();
                for (int i = 0; i < feeds; i++) x.feed(BLANKS, BLANKS, BLANKS, BLANKS, BLANKS);
                int[] n = {BLANKS, BLANKS, BLANKS, BLANKS, BLANKS};
                n[k / 4] ^= ('!' ^ ' ') << 24 - 8 * (k % 4);
                Check.due("2: how many", x.feed(n[0], n[1], n[2], n[3], n[4]), 20 * feeds + 20);
                fault("byte " + k + " of feed " + feeds, x, 1, 20 * feeds + k);
            }
        }
        int[] signs = {Bounds.LEAST, -1, Bounds.MOST, 0, 0x202020ff, 0x20ff2020, 0x0a200a80};
        int[] strange = {0, 0, 0, 0, 3, 1, 3};
        for (int i = 0; i < signs.length; i++) {
            for (int k = 0; k < 5; k++) {
                int[] n = {BLANKS, BLANKS, BLANKS, BLANKS, BLANKS};
                n[k] = signs[i];
                NeckRider x = new NeckRider();
                Check.due("2: whatever the numbers", x.feed(n[0], n[1], n[2], n[3], n[4]), 20);
                fault("number " + k + " is " + signs[i], x, 1, 4 * k + strange[i]);
            }
        }
    }

    /** 2: "NONE, and none come, if it would have more than 800". */
    private static void feedFull() {
        for (int had = 0; had <= 800; had++) {
            if (had > 40 && had < 760) continue;
            NeckRider x = new NeckRider();
            Check.feed(x, Bounds.BARE + " ".repeat(762));
            Check.due("3: cut", x.end(had), had);
            if (had <= 780) {
                Check.due("2: from " + had, x.feed(-1, -1, -1, -1, -1), had + 20);
                Check.due("66: they came", x.count(10), had + 20);
            } else {
                Bounds.refused("2: from " + had, x, -1, () -> x.feed(-1, -1, -1, -1, -1));
                Check.due("2: none came", x.count(10), had);
                Check.due("2: the text is as it was", x.isle(), 1);
            }
        }
    }

    /** 3: "The TAPE has its first n bytes alone: n". */
    private static void endBounds() {
        String text = Bounds.BARE + "!!" + " ".repeat(20);
        for (int n = 0; n <= text.length(); n++) {
            NeckRider x = new NeckRider();
            Check.feed(x, text);
            Check.due("3: end " + n, x.end(n), n);
            Check.due("66: so many bytes", x.count(10), n);
            Check.due("3: end again", x.end(n), n);
            int lines = n == 0 ? 0 : n == Bounds.BARE.length() ? 1 : -4;
            Check.due("3: the first " + n, x.isle(), lines);
        }
        NeckRider x = new NeckRider();
        Check.feed(x, Bounds.BARE + "!!");
        Check.due("3: cut", x.end(38), 38);
        Check.due("2: behind what was cut", x.feed(BLANKS, BLANKS, BLANKS, BLANKS, BLANKS), 58);
        Check.due("3: what was cut is gone", x.isle(), 1);
        Check.due("3: nothing of nothing", x.end(0), 0);
        Check.feed(x, " ".repeat(800));
        Check.due("3: all 800", x.end(800), 800);
        Check.due("3: 799 of 800", x.end(799), 799);
    }

    /** 3: "NONE, and nothing happens, if it has not so many, or n is below 0". */
    private static void endRefused() {
        for (int size : new int[] {0, 1, 38, 799, 800}) {
            NeckRider x = new NeckRider();
            Check.feed(x, (Bounds.BARE + " ".repeat(762)).substring(0, size));
            for (int n : Bounds.beyond(0, size)) {
                Bounds.refused("3: end " + n + " of " + size, x, -1, () -> x.end(n));
                Check.due("3: all are there", x.count(10), size);
            }
            Check.due("3: as they were", x.isle(), size == 0 ? 0 : size == 1 ? -4 : 1);
        }
    }

    /** 4: "how many LINES (0: there is none then)". */
    private static void isleOfNothing() {
        for (String text : new String[] {"", " ", "\n", " \n ", " ".repeat(800), "\n".repeat(800)}) {
            NeckRider x = Check.told(Bounds.FULL);
            x.offer(0);
            Check.due("4: no LINES", Check.tell(x, text), 0);
            State.same("4: there is none then", State.of(x), State.of(new NeckRider()));
        }
        NeckRider x = Check.told(Bounds.FULL);
        Check.due("4: the TAPE was empty then", x.isle(), 0);
        Check.due("4: and there is none", x.over(), -2);
    }

    /** 4: "-4: a FAULT (the TAPE is empty, all else stays)". */
    private static void isleFaulty() {
        for (String base : new String[] {"", Bounds.FULL, Bounds.BARE, IsleTest.SQUARE}) {
            NeckRider x = new NeckRider();
            Check.tell(x, base);
            x.image(1);
            x.offer(0);
            Check.seen(x, 2, 0, 1);
            String isle = State.ofIsle(x);
            int fits = x.fits(2);
            Check.feed(x, FIRST + "path 0 to 1;tree at 1 fruit 9;brook at 0;bearer at 0 strength 0;");
            fault("a whole isle but for its end", x, 2, 100);
            Check.due("4: the TAPE is empty", x.count(10), 0);
            State.same("4: all else stays", State.ofIsle(x), isle);
            Check.due("4: SLOTS stay", x.count(11), 1);
            Check.due("4: and their rows", x.fits(2), fits);
            Check.due("4: IMAGES stay", x.back(1), 0);
            Check.due("4: as kept", x.count(9), base.isEmpty() ? 0 : Check.told(base).count(9));
            Check.due("4: no other IMAGE", x.back(0), -6);
        }
    }

    /** 4: "is the ISLE (in place of another), nothing done"; SLOTS and IMAGES are not of it. */
    private static void isleLeavesTheRest() {
        NeckRider x = Check.told(Bounds.FULL);
        x.image(0);
        Check.seen(x, 0, 0, 9);
        x.offer(0);
        Check.due("4: another", Check.tell(x, IsleTest.SQUARE), 13);
        State.same("4: nothing of the one before", State.ofIsle(x),
            State.ofIsle(Check.told(IsleTest.SQUARE)));
        Check.due("4: the TAPE is empty then", x.count(10), 0);
        Check.due("4: nothing done", x.count(8), 0);
        Check.due("4: the row stays", x.count(11), 1);
        Check.due("4: the image stays", x.back(0), 0);
        State.same("4: as it was", State.ofIsle(x), State.ofIsle(Check.told(Bounds.FULL)));
    }

    /** 4: an ISLE in place of any other, or behind a FAULT, is as it is in a new object. */
    private static void isleAfterAnother() {
        String[] texts = {Bounds.BARE, Bounds.FULL, IsleTest.SQUARE, RideTest.FALLS, RideTest.DROPPED,
            RideTest.RIDERLESS, RideBounds.MEALS, RideBounds.STEP, RideBounds.LAST, RideBounds.FIVE,
            RideBounds.WINE, PlanTest.LINE, PlanTest.LONGEST, PlanBounds.SOONEST, PlanBounds.STAR};
        String[] due = new String[texts.length];
        for (int i = 0; i < texts.length; i++) due[i] = State.ofIsle(Check.told(texts[i]));
        NeckRider x = new NeckRider();
        for (int step = 1; step < texts.length; step++) {
            for (int i = 0; i < texts.length; i++) {
                // Every one comes behind every other one, and behind a FAULT in another's midst.
                int other = (i + step) % texts.length;
                Check.tell(x, texts[other]);
                State.of(x);
                x.image(2);
                Check.tell(x, texts[i]);
                State.same("4: in place of another", State.ofIsle(x), due[i]);
                Check.tell(x, texts[other] + "!");
                State.same("4: behind a FAULT", State.ofIsle(x), due[i]);
                x.image(0);
                x.back(2);
                State.same("68: the other one", State.ofIsle(x), due[other]);
                x.back(0);
                State.same("68: and back", State.ofIsle(x), due[i]);
            }
        }
    }

    /** I: "places 2 .. 7, hours 1 .. 12, weight 1 .. 20, odds 0 .. 10", "fruit 0 .. 9; ripe .." */
    private static void numbersOfLines() {
        number("isle places @ hours 1 weight 1 odds 0;", 2, 7, x -> x.count(0));
        number("isle places 2 hours @ weight 1 odds 0;", 1, 12, x -> x.count(1));
        number("isle places 2 hours 1 weight @ odds 0;", 1, 20, x -> x.count(2));
        number("isle places 2 hours 1 weight 1 odds @;", 0, 10, x -> x.count(3));
        number(FIRST + "tree at 0 fruit @;", 0, 9, x -> x.tree(0, 1));
        number(FIRST + "vine at 0 ripe @;", 0, 12, x -> x.vine(0, 1));
        number(FIRST + "bearer at 0 strength @;", 1, 99, x -> x.bearer(0, 1));
    }

    /** I: "P a PLACE 0 .. places less 1", "path: two unlike PLACES". */
    private static void places() {
        for (int n : new int[] {2, 3, 7}) {
            String first = "isle places " + n + " hours 1 weight 1 odds 0;";
            number(first + "tree at @ fruit 1;", 0, n - 1, x -> x.tree(0, 0));
            number(first + "vine at @ ripe 0;", 0, n - 1, x -> x.vine(0, 0));
            number(first + "bearer at @ strength 1;", 0, n - 1, x -> x.bearer(0, 0));
            number(first + "brook at @;", 0, n - 1, x -> Integer.numberOfTrailingZeros(x.brooks()));
            number(first + "path 0 to @;", 1, n - 1,
                x -> Integer.numberOfTrailingZeros(x.beside(0)));
            number(first + "path @ to 0;", 1, n - 1,
                x -> Integer.numberOfTrailingZeros(x.beside(0)));
            number(first + "path " + (n - 1) + " to @;", 0, n - 2,
                x -> Integer.numberOfTrailingZeros(x.beside(n - 1)));
            for (int p = 0; p < n; p++) {
                fault(first + "path " + p + " to " + p + ";", 2, first.length() + 10);
            }
            // The first of the two stands ahead: it is at fault, like the other or not.
            fault(first + "path " + n + " to " + n + ";", 2, first.length() + 5);
        }
    }

    /** The number stands at the mark; each that is allowed is told, others are FAULT 2 there. */
    private static void number(String form, int least, int most, ToIntFunction<NeckRider> told) {
        int place = form.indexOf('@');
        for (int i = least; i <= most; i++) {
            for (String zeros : new String[] {"", "0", "0".repeat(300)}) {
                NeckRider x = Check.told(form.replace("@", zeros + i));
                Check.due("4: " + i + " in " + form, told.applyAsInt(x), i);
                Check.due("5: no fault", x.fault(0), 0);
                Check.due("5: no fault's place", x.fault(1), -1);
            }
        }
        if (least > 0 && !form.contains("path")) fault(form.replace("@", "" + (least - 1)), 2, place);
        long[] far = {most + 1, most + 2, 10L * most + 10, 128, 256 + least, 1000000 + least,
            65536 + least, Bounds.MOST, Bounds.MOST + 1L, (1L << 32) + least, Long.MAX_VALUE};
        for (long i : far) fault(form.replace("@", "" + i), 2, place);
        String[] huge = {"1844674407370955161" + (6 + least % 3), "9223372036854775808",
            "36893488147419103232", "1" + "0".repeat(300) + least, "9".repeat(400)};
        for (String i : huge) fault(form.replace("@", i), 2, place);
        for (String i : new String[] {"-1", "-0", "+1", "", "a", ";", "one", ".5"}) {
            int at = i.isEmpty() ? place + 1 : place;
            if (i.isEmpty() && form.charAt(place + 1) == ';') at = place;
            fault(form.replace("@", i), 1, at);
        }
        fault(form.replace("@", most + " " + most), 1, place + ("" + most).length() + 1);
    }

    /** I: "PATHS 0 .. 9, TREES 0 .. 4, VINES 0 .. 2, BEARERS 0 .. 4"; 3: "an 11th path, ..". */
    private static void counts() {
        count("path 0 to 1;", 10, 4);
        count("tree at 0 fruit 1;", 5, 5);
        count("vine at 0 ripe 1;", 3, 6);
        count("bearer at 0 strength 1;", 5, 7);
        // BROOKS have no such bound: told twice it is one.
        NeckRider x = Check.told(FIRST + "brook at 2;".repeat(60));
        Check.due("9: sixty times told", x.brooks(), 4);
        Check.due("66: each is a LINE", x.count(9), 61);
    }

    private static void count(String line, int most, int what) {
        for (int n = 0; n <= most; n++) {
            NeckRider x = Check.told(FIRST + line.repeat(n));
            Check.due("66: " + n + " of " + line, x.count(what), n);
            Check.due("4: LINES", x.count(9), n + 1);
        }
        int place = FIRST.length() + line.length() * most;
        fault(FIRST + line.repeat(most + 1), 3, place);
        fault(FIRST + line.repeat(most + 2), 3, place);
        String word = line.substring(0, line.indexOf(' '));
        fault(FIRST + line.repeat(most) + word, 3, place);
        fault(FIRST + line.repeat(most) + "\n " + word + "! 99", 3, place + 2);
        fault(FIRST + line.repeat(most) + word + "s", 1, place);
        // The word where it can't stand is no such LINE.
        fault(FIRST + line.repeat(most) + "brook at " + word, 1, place + 9);
        // Elsewhere another LINE may still come.
        Check.told(FIRST + line.repeat(most) + "brook at 0;");
    }

    /** I: "blanks (32, 10) aside, the longest: words (a .. z), numbers (digits), the sign ;". */
    private static void everyByte() {
        String cut = "isle places 2 hours 1 weight 1 odds 0";
        for (int b = 0; b < 256; b++) {
            char sign = (char) b;
            boolean blank = b == 32 || b == 10;
            boolean letter = b >= 'a' && b <= 'z';
            boolean digit = b >= '0' && b <= '9';
            NeckRider x = new NeckRider();
            String behind = Bounds.BARE + sign;
            if (blank) Check.due("4: blank " + b, Check.tell(x, behind), 1);
            else fault(behind, 1, 38);
            String inside = "isle" + sign + "places 2 hours 1 weight 1 odds 0;";
            if (blank) Check.due("4: blank " + b, Check.tell(x, inside), 1);
            else fault(inside, 1, letter ? 0 : 4);
            String ahead = sign + Bounds.BARE;
            if (blank) Check.due("4: blank " + b, Check.tell(x, ahead), 1);
            else fault(ahead, 1, 0);
            String number = cut + sign + ";";
            if (blank || digit) Check.due("4: byte " + b, Check.tell(x, number), 1);
            else fault(number, 1, sign == ';' ? 38 : 37);
            fault("is" + sign + "le places 2 hours 1 weight 1 odds 0;", 1, 0);
        }
        Check.due("4: the longest", Check.tell(new NeckRider(),
            "isle places2hours1weight1odds0;path0to1;path1to0;brook at1;"), 4);
        fault("isle places 2 hours 1 weight 1 odds 1 0;", 1, 38);
        fault("isle places 2 hours 1 weight 1 od ds 0;", 1, 31);
        fault("isleplaces 2 hours 1 weight 1 odds 0;", 1, 0);
        fault(Bounds.BARE + ";", 1, 38);
    }

    /** I: a word is the one that is told, by each of its letters. */
    private static void everyLetter() {
        String text = "isle places 3 hours 2 weight 1 odds 0;path 0 to 1;tree at 0 fruit 1;"
            + "vine at 0 ripe 1;brook at 0;bearer at 0 strength 1;";
        Check.due("4: as told", Check.tell(new NeckRider(), text), 6);
        int word = 0;
        for (int i = 0; i < text.length(); i++) {
            char sign = text.charAt(i);
            if (!Character.isLetter(sign)) continue;
            if (i == 0 || !Character.isLetter(text.charAt(i - 1))) word = i;
            char other = sign == 'z' ? 'a' : (char) (sign + 1);
            fault(text.substring(0, i) + other + text.substring(i + 1), 1, word);
            fault(text.substring(0, i) + Character.toUpperCase(sign) + text.substring(i + 1), 1, word);
            fault(text.substring(0, i) + sign + text.substring(i), 1, word);
            fault(text.substring(0, i) + text.substring(i + 1), 1, word);
        }
        for (String turned : new String[] {"elsi places 3", "isle hours 2", "isle place 3"}) {
            int place = turned.startsWith("isle") ? 5 : 0;
            fault(turned + " weight 1 odds 0;", 1, place);
        }
    }

    /** I: "its place (a TOKEN's first byte; the end's)", wherever a text is cut off. */
    private static void everyEnd() {
        String text = "isle places 2 hours 12 weight 10 odds 10;\npath 0 to 1 ; tree at 0 fruit 9;"
            + "vine at 1 ripe 12;brook at 0;bearer at 0 strength 99;";
        int word = 0;
        int lines = 0;
        for (int n = 1; n <= text.length(); n++) {
            char last = text.charAt(n - 1);
            boolean letter = Character.isLetter(last);
            if (letter && (n == 1 || !Character.isLetter(text.charAt(n - 2)))) word = n - 1;
            boolean cutsWord = letter && n < text.length() && Character.isLetter(text.charAt(n));
            if (last == ';') lines++;
            String cut = text.substring(0, n);
            boolean whole = cut.trim().endsWith(";");
            if (whole) Check.due("4: " + cut, Check.tell(new NeckRider(), cut), lines);
            else fault(cut, 1, cutsWord ? word : n);
            if (!whole && !cutsWord) {
                fault(cut + "  \n", 1, n + 3);
                fault(cut + " " + "\0", 1, n + 1);
            }
        }
    }

    /** A TAPE of 800 bytes, each of them read. */
    private static void fullTape() {
        String lines = FIRST + "brook at 1;".repeat(69);
        Check.due("4: 797 bytes, with 3 more", Check.tell(new NeckRider(), lines + "  \n"), 70);
        String far = Bounds.BARE + "\n".repeat(752) + "brook at1;";
        Check.due("4: 800 bytes", far.length(), 800);
        Check.due("4: the sign is the 800th", Check.tell(new NeckRider(), far), 2);
        fault(far.substring(0, 799), 1, 799);
        fault(far.substring(0, 799) + " ", 1, 800);
        fault(far.substring(0, 799) + "!", 1, 799);
        fault(Bounds.BARE + " ".repeat(761) + "a", 1, 799);
        fault("a".repeat(800), 1, 0);
        fault("isle places " + "0".repeat(788), 2, 12);
        fault("isle places " + "0".repeat(787) + "2", 1, 800);
        Check.due("4: a number of many digits", Check.tell(new NeckRider(),
            "isle places " + "0".repeat(761) + "2hours1weight1odds0;"), 1);
    }

    /** I: "FAULTS, the first by its place". */
    private static void firstByPlace() {
        String many = FIRST + "tree at 0 fruit 1;".repeat(5);
        fault(many + "tree at 9 fruit 10;!", 3, many.length());
        fault(many + "vine at 9 ripe 1;tree at 0 fruit 1;", 2, many.length() + 8);
        fault(many + "!tree at 0 fruit 1;", 1, many.length());
        fault(FIRST + "tree at 3 fruit 10;", 2, FIRST.length() + 8);
        fault(FIRST + "tree at 3 ripe !", 2, FIRST.length() + 8);
        fault(FIRST + "tree at 2 ripe 10", 1, FIRST.length() + 10);
        fault(FIRST + "path 0 99;", 1, FIRST.length() + 7);
        fault("isle places 8 hours 0 weight 0 odds 11", 2, 12);
        fault("isle places 7 hours 0 weight 0 odds 11", 2, 20);
        fault("isle places 7 hours 1 weight 0 odds 11", 2, 29);
        fault("isle places 7 hours 1 weight 1 odds 11", 2, 36);
        fault("isle places 7 hours 1 weight 1 odds 10", 1, 38);
        // isle is the first LINE and no other, any other LINE is not the first.
        for (String line : new String[] {"path 0 to 1;", "tree at 0 fruit 1;", "vine at 0 ripe 1;",
            "brook at 0;", "bearer at 0 strength 1;", ";", "7;", "odds 0;"}) {
            fault(line, 1, 0);
            fault("\n " + line + FIRST, 1, 2);
        }
        fault(FIRST + FIRST, 1, FIRST.length());
        fault(Bounds.FULL + "isle", 1, Bounds.FULL.length());
    }

    /** 5: "NONE for another what, and ahead of any (what 1)". */
    private static void faultBounds() {
        NeckRider x = new NeckRider();
        Check.due("5: ahead of any, what 0", x.fault(0), 0);
        Check.due("5: ahead of any, what 1", x.fault(1), -1);
        whatBounds(x);
        Check.tell(x, "!");
        Check.due("5: its FAULT", x.fault(0), 1);
        Check.due("5: its place", x.fault(1), 0);
        whatBounds(x);
        Check.feed(x, Bounds.BARE);
        x.end(38);
        Check.due("5: of the latest isle()", x.fault(1), 0);
        x.isle();
        Check.due("5: 0 without", x.fault(0), 0);
        Check.due("5: NONE without", x.fault(1), -1);
        whatBounds(x);
        Check.tell(x, FIRST + "brook at 3");
        Check.due("5: another FAULT", x.fault(0), 2);
        Check.due("5: another place", x.fault(1), 47);
        x.isle();
        Check.due("5: of nothing, without", x.fault(0), 0);
        Check.due("5: of nothing, no place", x.fault(1), -1);
    }

    private static void whatBounds(NeckRider x) {
        for (int what : Bounds.beyond(0, 1)) Check.due("5: what " + what, x.fault(what), -1);
    }
}
