/** Promises 1 to 5: the TAPE, the text and its FAULTS. */
final class TextTest {
    private static final String FIRST = "isle places 3 hours 2 weight 1 odds 0;";

    private TextTest() { }

    static void run() {
        newObject();
        tape();
        isleInPlaceOfAnother();
        soundTexts();
        tokenFaults();
        numberFaults();
        countFaults();
        faultStays();
    }

    private static void newObject() {
        NeckRider x = new NeckRider();
        Check.due("1: NONE", NeckRider.NONE, -1);
        for (int what = 0; what <= 11; what++) Check.due("1: count " + what, x.count(what), 0);
        Check.due("1: brooks", x.brooks(), -2);
        Check.due("1: over", x.over(), -2);
        Check.due("1: at(0)", x.at(0), -2);
        Check.due("1: undo", x.undo(), -2);
    }

    private static void tape() {
        NeckRider x = new NeckRider();
        Check.due("2: feed", x.feed(1, 2, 3, 4, 5), 20);
        for (int i = 2; i <= 39; i++) Check.due("2: feed " + i, x.feed(0, 0, 0, 0, 0), 20 * i);
        Check.due("3: end 781", x.end(781), -1);
        Check.due("3: end 780", x.end(780), 780);
        Check.due("2: the 800th byte", x.feed(0, 0, 0, 0, 0), 800);
        Check.due("2: full", x.feed(0, 0, 0, 0, 0), -1);
        Check.due("2: full, none come", x.count(10), 800);
        Check.due("3: end below 0", x.end(-1), -1);
        Check.due("3: end least", x.end(Integer.MIN_VALUE), -1);
        Check.due("3: nothing happens", x.count(10), 800);
        Check.due("3: end 781 of 800", x.end(781), 781);
        Check.due("2: one byte too many", x.feed(0, 0, 0, 0, 0), -1);
        Check.due("3: end 0", x.end(0), 0);
        Check.due("2: from the first again", x.feed(0, 0, 0, 0, 0), 20);
        // "isle", highest first, and a byte above 127 in the second number.
        x.end(0);
        x.feed(0x69736c65, 0xe9202020, 0x20202020, 0x20202020, 0x20202020);
        Check.due("2: bytes, highest first", x.isle(), -4);
        Check.due("2: the byte 0xe9 is no token", x.fault(1), 4);
    }

    private static void isleInPlaceOfAnother() {
        NeckRider x = new NeckRider();
        Check.due("4: no bytes", x.isle(), 0);
        Check.due("4: nothing told", x.way(0, 0), -2);
        Check.due("4: lines", Check.tell(x, FIRST + "path 0 to 1;brook at 2;brook at 2;"), 4);
        Check.due("4: the tape is empty", x.count(10), 0);
        Check.due("4: count 9", x.count(9), 4);
        Check.due("4: a brook told twice is one", x.brooks(), 4);
        x.offer(0);
        Check.due("4: faulty", Check.tell(x, FIRST + "path 0 to"), -4);
        Check.due("4: faulty, the tape is empty", x.count(10), 0);
        Check.due("4: faulty, the isle stays", x.count(9), 4);
        Check.due("4: faulty, acts stay", x.count(8), 1);
        Check.due("4: another isle", Check.tell(x, "isle places 2 hours 2 weight 7 odds 1;"), 1);
        Check.due("4: nothing of the one before", x.beside(0), 0);
        Check.due("4: no brooks left", x.brooks(), 0);
        Check.due("4: nothing done", x.count(8), 0);
        Check.due("4: its weight", x.count(2), 7);
        x.offer(0);
        Check.due("4: blanks alone", Check.tell(x, "  \n \n"), 0);
        Check.due("4: there is none then", x.over(), -2);
        for (int what = 0; what <= 11; what++) Check.due("4: count " + what, x.count(what), 0);
    }

    private static void soundTexts() {
        sound("isle places 2 hours 1 weight 1 odds 0;", 1);
        sound("isle places 7 hours 12 weight 20 odds 10;", 1);
        sound("\n isle\nplaces  2 hours 1 weight 1 odds 0 ; ", 1);
        sound("isleplaces", -4);
        sound("isle places2hours1weight1odds0;path0to1;path 0 to01;", 3);
        sound("isle places 0000000000000000000002 hours 1 weight 1 odds 000;", 1);
        String full = FIRST + repeat("path 0 to 1;", 10) + repeat("tree at 2 fruit 9;", 5)
            + repeat("vine at 2 ripe 12;", 3) + repeat("bearer at 0 strength 99;", 5)
            + repeat("brook at 1;", 20);
        sound(full, 44);
    }

    private static void sound(String text, int lines) {
        Check.due("4: " + text, Check.tell(new NeckRider(), text), lines);
    }

    private static String repeat(String line, int n) {
        return line.repeat(n);
    }

    private static void faulty(String text, int number, int place) {
        NeckRider x = new NeckRider();
        Check.due("4: " + text, Check.tell(x, text), -4);
        Check.due("5: number in " + text, x.fault(0), number);
        Check.due("5: place in " + text, x.fault(1), place);
    }

    /** The place is where the mark stands. */
    private static void faultAt(int number, String text) {
        faulty(text.replace("@", ""), number, text.indexOf('@'));
    }

    private static void tokenFaults() {
        faultAt(1, "@;");
        faultAt(1, "@path 0 to 1;");
        faultAt(1, " \n@isles places 2 hours 1 weight 1 odds 0;");
        faultAt(1, "@Isle places 2 hours 1 weight 1 odds 0;");
        faultAt(1, "isle @2;");
        faultAt(1, "isle places @hours 1 weight 1 odds 0;");
        faultAt(1, "isle places @-2 hours 1 weight 1 odds 0;");
        faultAt(1, "isle places 2@.5 hours 1 weight 1 odds 0;");
        faultAt(1, "isle places 2 @9 hours 1 weight 1 odds 0;");
        faultAt(1, "isle places 2\t".replace("\t", "@\t") + "hours 1 weight 1 odds 0;");
        faultAt(1, "isle places 2 hours 1 weight 1 odds 0@");
        faultAt(1, "isle places 2 hours 1 weight 1 odds 0  @");
        faultAt(1, "isle places 2 hours 1 weight 1 odds 0; path@");
        faultAt(1, FIRST + "@" + FIRST);
        faultAt(1, FIRST + " @;");
        faultAt(1, FIRST + "@7;");
        faultAt(1, FIRST + "@to;");
        faultAt(1, FIRST + "@paths 0 to 1;");
        faultAt(1, FIRST + "@pat 0 to 1;");
        faultAt(1, FIRST + "path @at 0 to 1;");
        faultAt(1, FIRST + "path 0 @1;");
        faultAt(1, FIRST + "path 0 to 1@");
        faultAt(1, FIRST + "path 0 to 1 @path 1 to 2;");
        faultAt(1, FIRST + "tree @0 fruit 1;");
        faultAt(1, FIRST + "tree at 0 @ripe 1;");
        faultAt(1, FIRST + "vine at 0 @fruit 1;");
        faultAt(1, FIRST + "brook at 0 @fruit 1;");
        faultAt(1, FIRST + "bearer at 0 @strong 1;");
        faultAt(1, FIRST + "bearer at 0 strength 1;@!");
        faultAt(1, FIRST + "@\0");
        faultAt(1, FIRST + "@\r\n");
    }

    private static void numberFaults() {
        faultAt(2, "isle places @1 hours 1 weight 1 odds 0;");
        faultAt(2, "isle places @8 hours 1 weight 1 odds 0;");
        faultAt(2, "isle places 2 hours @0 weight 1 odds 0;");
        faultAt(2, "isle places 2 hours @13 weight 1 odds 0;");
        faultAt(2, "isle places 2 hours 1 weight @0 odds 0;");
        faultAt(2, "isle places 2 hours 1 weight @21 odds 0;");
        faultAt(2, "isle places 2 hours 1 weight 1 odds @11;");
        faultAt(2, "isle places @8 hours 13 weight 1 odds 0;");
        faultAt(2, "isle places @4294967298 hours 1 weight 1 odds 0;");
        faultAt(2, "isle places @18446744073709551618 hours 1 weight 1 odds 0;");
        faultAt(2, FIRST + "path @3 to 1;");
        faultAt(2, FIRST + "path 0 to @3;");
        faultAt(2, FIRST + "path 1 to @1;");
        faultAt(2, FIRST + "path 1 to @01;");
        faultAt(2, FIRST + "tree at @3 fruit 1;");
        faultAt(2, FIRST + "tree at 2 fruit @10;");
        faultAt(2, FIRST + "vine at @3 ripe 1;");
        faultAt(2, FIRST + "vine at 0 ripe @13;");
        faultAt(2, FIRST + "brook at @3;");
        faultAt(2, FIRST + "bearer at @3 strength 1;");
        faultAt(2, FIRST + "bearer at 0 strength @0;");
        faultAt(2, FIRST + "bearer at 0 strength @100;");
        // The first by its place: the number stands ahead of the wrong word.
        faultAt(2, FIRST + "tree at @3 fruits 1;");
        faultAt(1, FIRST + "tree at @x fruit 10;");
    }

    private static void countFaults() {
        faultAt(3, FIRST + repeat("path 0 to 1;", 10) + "@path 0 to 1;");
        faultAt(3, FIRST + repeat("tree at 0 fruit 0;", 5) + "@tree at 9 fruit 0;");
        faultAt(3, FIRST + repeat("vine at 0 ripe 0;", 3) + "brook at 0; @vine");
        faultAt(3, FIRST + repeat("bearer at 0 strength 1;", 5) + "@bearer at 0 strength 1;");
    }

    private static void faultStays() {
        NeckRider x = new NeckRider();
        Check.due("5: ahead of any, what 0", x.fault(0), 0);
        Check.due("5: ahead of any, what 1", x.fault(1), -1);
        Check.due("5: another what", x.fault(2), -1);
        Check.due("5: another what", x.fault(-1), -1);
        Check.tell(x, FIRST + "x");
        x.image(0);
        Check.due("5: number", x.fault(0), 1);
        Check.due("5: place", x.fault(1), 38);
        Check.due("5: another what of a fault", x.fault(2), -1);
        Check.feed(x, FIRST);
        Check.due("5: of the latest isle()", x.fault(0), 1);
        x.isle();
        Check.due("5: without, what 0", x.fault(0), 0);
        Check.due("5: without, what 1", x.fault(1), -1);
        x.back(0);
        Check.due("5: back() changes none", x.fault(0), 0);
    }
}
