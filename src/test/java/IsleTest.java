/** Promises 6 to 12, 34, 35 and 66: what the isle is like. */
final class IsleTest {
    /** A square 0 1 2 3, and 4 for itself. */
    static final String SQUARE = "isle places 5 hours 8 weight 3 odds 4;"
        + "path 0 to 1;path 1 to 2;path 2 to 3;path 3 to 0;"
        + "tree at 2 fruit 2;tree at 4 fruit 1;tree at 3 fruit 1;"
        + "vine at 3 ripe 2;brook at 2;"
        + "bearer at 0 strength 9;bearer at 2 strength 6;bearer at 2 strength 6;";

    private IsleTest() { }

    static void run() {
        things();
        ways();
        steering();
        counts();
    }

    private static void things() {
        NeckRider x = Check.told(SQUARE);
        Check.due("6: tree(0, 0)", x.tree(0, 0), 2);
        Check.due("6: tree(0, 1)", x.tree(0, 1), 2);
        Check.due("6: tree(1, 0)", x.tree(1, 0), 4);
        Check.due("6: tree(2, 1)", x.tree(2, 1), 1);
        Check.due("6: tree(3, 0)", x.tree(3, 0), -2);
        Check.due("6: tree(-1, 0)", x.tree(-1, 0), -2);
        Check.due("6: tree(0, 2)", x.tree(0, 2), -2);
        Check.due("6: tree(0, -1)", x.tree(0, -1), -2);
        Check.due("7: vine(0, 0)", x.vine(0, 0), 3);
        Check.due("7: vine(0, 1)", x.vine(0, 1), 2);
        Check.due("7: vine(1, 0)", x.vine(1, 0), -2);
        Check.due("7: vine(-1, 0)", x.vine(-1, 0), -2);
        Check.due("7: vine(0, 2)", x.vine(0, 2), -2);
        Check.due("8: bearer(0, 0)", x.bearer(0, 0), 0);
        Check.due("8: bearer(0, 1)", x.bearer(0, 1), 9);
        Check.due("8: bearer(2, 0)", x.bearer(2, 0), 2);
        Check.due("8: bearer(2, 1)", x.bearer(2, 1), 6);
        Check.due("8: bearer(3, 0)", x.bearer(3, 0), -2);
        Check.due("8: bearer(0, 2)", x.bearer(0, 2), -2);
        Check.due("9: brooks", x.brooks(), 4);
        Check.tell(x, "isle places 7 hours 1 weight 1 odds 0;brook at 6;brook at 0;brook at 6;");
        Check.due("9: brooks told twice", x.brooks(), 65);
        Check.tell(x, "isle places 7 hours 1 weight 1 odds 0;");
        Check.due("9: no brooks", x.brooks(), 0);
    }

    private static void ways() {
        NeckRider x = Check.told(SQUARE);
        Check.due("10: way(0, 2)", x.way(0, 2), 2);
        Check.due("10: way(2, 0)", x.way(2, 0), 2);
        Check.due("10: way(0, 3)", x.way(0, 3), 1);
        Check.due("10: way(4, 4)", x.way(4, 4), 0);
        Check.due("10: way(0, 4)", x.way(0, 4), -1);
        Check.due("10: way(5, 0)", x.way(5, 0), -2);
        Check.due("10: way(0, 5)", x.way(0, 5), -2);
        Check.due("10: way(0, -1)", x.way(0, -1), -2);
        Check.due("11: beside(0)", x.beside(0), 10);
        Check.due("11: beside(4)", x.beside(4), 0);
        Check.due("11: beside(5)", x.beside(5), -2);
        Check.due("34: reach(1)", x.reach(1), 15);
        Check.due("34: reach(4)", x.reach(4), 16);
        Check.due("34: reach(5)", x.reach(5), -2);
        Check.due("34: reach(-1)", x.reach(-1), -2);
        Check.due("35: lone", x.lone(), 2);
        Check.tell(x, "isle places 7 hours 1 weight 1 odds 0;path 0 to 1;path 1 to 2;path 2 to 3;"
            + "path 3 to 4;path 4 to 5;path 5 to 6;path 6 to 5;");
        Check.due("10: the longest", x.way(0, 6), 6);
        Check.due("11: a path told twice", x.beside(6), 32);
        Check.due("66: it is two PATHS", x.count(4), 7);
        Check.due("35: without bearers", x.lone(), 0);
        Check.tell(x, "isle places 3 hours 1 weight 1 odds 0;path 0 to 1;tree at 0 fruit 0;"
            + "tree at 2 fruit 1;tree at 1 fruit 1;bearer at 2 strength 1;bearer at 0 strength 1;");
        Check.due("35: from bearer 0, bare trees too", x.lone(), 5);
        Check.tell(x, "isle places 2 hours 1 weight 1 odds 0;tree at 0 fruit 1;tree at 1 fruit 1;"
            + "bearer at 1 strength 1;");
        Check.due("35: of one bearer", x.lone(), 1);
    }

    private static void steering() {
        NeckRider x = Check.told(SQUARE);
        Check.due("12: the nearest", x.steers(0), 2);
        Check.due("12: from 1", x.steers(1), 0);
        Check.due("12: in its place", x.steers(2), 0);
        Check.due("12: the lone one", x.steers(4), 1);
        Check.due("12: none such", x.steers(5), -2);
        x.grow(2, 0);
        Check.due("12: no fruit on it", x.steers(3), 0);
        Check.tell(x, "isle places 4 hours 1 weight 1 odds 0;path 0 to 1;path 0 to 2;"
            + "tree at 2 fruit 1;tree at 1 fruit 1;tree at 2 fruit 3;");
        Check.due("12: the first of several", x.steers(0), 0);
        Check.due("12: none to steer to", x.steers(3), -1);
    }

    private static void counts() {
        NeckRider x = Check.told(SQUARE);
        int[] due = {5, 8, 3, 4, 4, 3, 1, 3, 0, 13, 0, 0};
        for (int what = 0; what < due.length; what++) {
            Check.due("66: count " + what, x.count(what), due[what]);
        }
        Check.due("66: count 12", x.count(12), -1);
        Check.due("66: count -1", x.count(-1), -1);
        x.offer(7);
        x.feed(0, 0, 0, 0, 0);
        x.row(3, 0, 0);
        x.row(3, 0, 2);
        x.row(0, 3, 60);
        Check.due("66: acts", x.count(8), 1);
        Check.due("66: bytes", x.count(10), 20);
        Check.due("66: slots", x.count(11), 2);
    }
}
