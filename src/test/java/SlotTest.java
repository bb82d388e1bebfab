/** Promises 69 to 71: rows of numbers. What stands in them is read by fits(). */
final class SlotTest {
    private static final int LEAST = Integer.MIN_VALUE;
    private static final int MOST = Integer.MAX_VALUE;

    private SlotTest() { }

    static void run() {
        rows();
        writes();
        pastes();
        wrongPastes();
    }

    private static void rows() {
        NeckRider x = Check.told(IsleTest.SQUARE);
        Check.due("69: row", x.row(0, 0, 2), 0);
        Check.due("69: 60", x.row(3, 3, 60), 0);
        Check.due("69: 61", x.row(3, 3, 61), -2);
        Check.due("69: the greatest", x.row(3, 3, MOST), -2);
        Check.due("69: below 0", x.row(3, 3, -1), -3);
        Check.due("69: the least", x.row(3, 3, LEAST), -3);
        Check.due("69: no such slot", x.row(4, 0, 2), -2);
        Check.due("69: no such slot", x.row(-1, 0, -1), -2);
        Check.due("69: no such width", x.row(0, 4, 2), -2);
        Check.due("69: no such width", x.row(0, -1, 2), -2);
        Check.due("69: the slot stays", x.write(3, 59, 1), 0);
        x.write(0, 1, 1);
        Check.due("69: one left", x.fits(0), 4);
        x.row(0, 0, -1);
        Check.due("69: it stays", x.fits(0), 4);
        x.row(0, 0, 2);
        Check.due("69: all 0 again", x.fits(0), 22);
        Check.due("69: none", x.row(0, 1, 0), 0);
        Check.due("69: an empty row is a row", x.count(11), 2);
        Check.due("69: it has no number", x.write(0, 0, 1), -7);
    }

    private static void writes() {
        NeckRider x = Check.told(IsleTest.SQUARE);
        Check.due("70: nothing", x.write(0, 0, 1), -6);
        Check.due("70: no such slot", x.write(4, 0, 1), -2);
        Check.due("70: no such slot", x.write(-1, 0, 1), -2);
        for (int width = 0; width < 4; width++) {
            x.row(0, width, 2);
            Check.due("70: write", x.write(0, 1, 1), 0);
            Check.due("70: behind", x.write(0, 2, 1), -7);
            Check.due("70: ahead", x.write(0, -1, 1), -7);
            Check.due("70: far ahead", x.write(0, LEAST, 1), -7);
            Check.due("70: one left", x.fits(0), 4);
            for (int bit = 8; bit < 63; bit++) {
                x.write(0, 1, 1 | 1L << bit);
                int due = bit >= 8 << width ? 4 : -2;
                Check.due("70: cut to width " + width + ", bit " + bit, x.fits(0), due);
            }
            x.write(0, 1, -1);
            Check.due("70: -1 stays unlike 9", x.fits(0), -2);
        }
    }

    /** Row 1 of slot 1 is slot 0's, a number on: fits() tells that they are as they were. */
    private static void pastes() {
        NeckRider x = Check.told(IsleTest.SQUARE);
        Check.seen(x, 0, 9, 0, 1, 9);
        x.row(1, 0, 2);
        Check.due("71: paste", x.paste(0, 1, 1, 0, 2), 0);
        Check.due("71: 0 1 stands there", x.fits(1), 4);
        Check.due("71: the source stays", x.fits(0), -2);
        // Its own, one on, over each other: 0 1 2 0 . becomes 0 0 1 2 0.
        Check.seen(x, 2, 0, 1, 2, 0, 7, 0);
        Check.due("71: its own", x.paste(2, 0, 2, 1, 4), 0);
        x.row(3, 0, 4);
        x.paste(2, 1, 3, 0, 4);
        Check.due("71: as they were", x.fits(3), 2);
        Check.seen(x, 2, 7, 0, 1, 2, 0);
        Check.due("71: its own, to the front", x.paste(2, 1, 2, 0, 4), 0);
        x.paste(2, 0, 3, 0, 4);
        Check.due("71: as they were", x.fits(3), 2);
        Check.due("71: none", x.paste(2, 5, 3, 4, 0), 0);
        Check.due("71: nothing changed", x.fits(3), 2);
    }

    private static void wrongPastes() {
        NeckRider x = Check.told(IsleTest.SQUARE);
        Check.seen(x, 0, 0, 1);
        x.row(1, 1, 3);
        Check.due("71: no such slot", x.paste(4, 0, 0, 0, 0), -2);
        Check.due("71: no such slot", x.paste(0, 0, -1, 0, 0), -2);
        Check.due("71: nothing", x.paste(0, 0, 2, 0, 0), -6);
        Check.due("71: nothing", x.paste(2, 0, 0, 0, 0), -6);
        Check.due("71: widths", x.paste(0, 0, 1, 0, 1), -8);
        Check.due("71: widths go ahead", x.paste(0, 9, 1, 9, 9), -8);
        x.row(1, 0, 3);
        int[][] beyond = {{0, 0, 3}, {1, 0, 2}, {2, 0, 1}, {3, 0, 0}, {0, 4, 0}, {0, 3, 1},
            {-1, 0, 1}, {0, -1, 1}, {0, 0, -1}, {1, 1, LEAST}, {MOST, 0, MOST}, {0, MOST, MOST},
            {MOST, MOST, 0}, {LEAST, 0, 0}, {0, 0, MOST}, {0, 2, 2}};
        for (int[] b : beyond) {
            Check.due("71: beyond " + b[0] + " " + b[1] + " " + b[2], x.paste(0, b[0], 1, b[1], b[2]), -7);
        }
        Check.due("71: at the ends, none", x.paste(0, 2, 1, 3, 0), 0);
        Check.due("71: nothing happened", x.fits(0), 4);
    }
}
