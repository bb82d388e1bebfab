/** Promises 69 to 71 at their bounds: each number of a row is read back. */
final class SlotBounds {
    /** He eats from 9 to nothing in 0 .. 9: what is left tells the HOUR. */
    private static final String MEALS = "isle places 2 hours 12 weight 1 odds 0;tree at 0 fruit 9;"
        + "bearer at 0 strength 1;";
    private static final int STRANGE = -99;

    private SlotBounds() { }

    static void run() {
        rowBounds();
        rowRefused();
        rowAnew();
        writeBounds();
        writeRefused();
        writeCuts();
        pasteSlots();
        pasteNothing();
        pasteWidths();
        pasteBeyond();
        pasteWhole();
        pasteIntoItself();
        pasteOthers();
        withoutIsle();
    }

    /** Number i of a row, by a SLOT that is not used otherwise; STRANGE if it is not 0 .. 9. */
    private static int read(NeckRider x, int slot, int width, int i, int probe) {
        x.row(probe, width, 2);
        Check.due("71: one number", x.paste(slot, i, probe, 1, 1), 0);
        int hours = x.rode(probe);
        if (hours == -2) return STRANGE;
        // 9 is also left, in all HOURS, where he began at the PLACE without a TREE.
        return hours == 8191 ? 9 : 9 - Integer.numberOfTrailingZeros(hours);
    }

    private static void holds(String what, NeckRider x, int slot, int width, int[] due) {
        int probe = slot == 3 ? 2 : 3;
        for (int i = 0; i < due.length; i++) {
            Check.due(what + ", number " + i, read(x, slot, width, i, probe), due[i]);
        }
        x.row(probe, width, 1);
        Check.due(what + ", no more", x.paste(slot, due.length, probe, 0, 1), -7);
    }

    private static int[] count(NeckRider x, int slot, int width, int n) {
        int[] numbers = new int[n];
        x.row(slot, width, n);
        for (int i = 0; i < n; i++) {
            numbers[i] = (i * 7 + 3 + slot) % 10;
            x.write(slot, i, numbers[i]);
        }
        return numbers;
    }

    /** 69: "A SLOT (0 .. 3) has a row of n numbers of a WIDTH", "or n is above 60". */
    private static void rowBounds() {
        NeckRider x = Check.told(MEALS);
        Bounds.of("69: a SLOT", 0, 3, -2, s -> x.row(s, 0, 2));
        Bounds.of("69: a SLOT", 0, 3, -2, s -> x.row(s, 3, 60));
        Bounds.of("69: a WIDTH", 0, 3, -2, w -> x.row(0, w, 2));
        Bounds.of("69: a WIDTH", 0, 3, -2, w -> x.row(3, w, 0));
        for (int s = 0; s < 4; s++) {
            for (int w = 0; w < 4; w++) {
                for (int n = 0; n <= 60; n++) Check.due("69: 0", x.row(s, w, n), 0);
                for (int n : Bounds.beyond(0, 60)) {
                    Check.due("69: of " + n, x.row(s, w, n), n < 0 ? -3 : -2);
                }
                Check.due("70: 60 it has", x.write(s, 59, 1), 0);
                Check.due("70: and no more", x.write(s, 60, 1), -7);
            }
        }
    }

    /** 69: "-3, and the SLOT stays"; -2 goes ahead of it. */
    private static void rowRefused() {
        NeckRider x = Check.told(MEALS);
        int[] numbers = count(x, 1, 1, 10);
        for (int n : new int[] {-1, -2, -60, Bounds.LEAST}) {
            Bounds.refused("69: below 0", x, -3, () -> x.row(1, 1, n));
            Bounds.refused("69: below 0", x, -3, () -> x.row(1, 2, n));
            Bounds.refused("69: below 0, nothing", x, -3, () -> x.row(0, 0, n));
            Bounds.refused("69: no such SLOT", x, -2, () -> x.row(4, 0, n));
            Bounds.refused("69: no such SLOT", x, -2, () -> x.row(-1, 0, n));
            Bounds.refused("69: no such WIDTH", x, -2, () -> x.row(1, 4, n));
            Bounds.refused("69: no such WIDTH", x, -2, () -> x.row(1, -1, n));
        }
        for (int n : new int[] {61, 62, 100, Bounds.MOST}) {
            Bounds.refused("69: above 60", x, -2, () -> x.row(1, 1, n));
            Bounds.refused("69: above 60, nothing", x, -2, () -> x.row(0, 0, n));
        }
        Check.due("70: it has nothing still", x.write(0, 0, 1), -6);
        Check.due("66: one SLOT", x.count(11), 1);
        holds("69: the SLOT stays", x, 1, 1, numbers);
    }

    /** 69: "all 0 (in place of another one)". */
    private static void rowAnew() {
        NeckRider x = Check.told(MEALS);
        for (int s = 0; s < 4; s++) {
            for (int n : new int[] {1, 30, 60}) {
                count(x, s, 0, 60);
                x.row(s, 3 - s, n);
                holds("69: all 0", x, s, 3 - s, new int[n]);
            }
            // Shorter and longer again, what stood there is gone.
            count(x, s, 0, 60);
            x.row(s, 0, 0);
            Check.due("70: it has no number", x.write(s, 0, 1), -7);
            x.row(s, 0, 60);
            holds("69: all 0", x, s, 0, new int[60]);
        }
    }

    private static void writeBounds() {
        NeckRider x = Check.told(MEALS);
        for (int n : new int[] {1, 2, 59, 60}) {
            for (int s = 0; s < 4; s++) {
                int slot = s;
                x.row(s, 1, n);
                Bounds.of("70: number of " + n, 0, n - 1, -7, i -> x.write(slot, i, 1));
            }
        }
        x.row(0, 2, 0);
        Bounds.none("70: number of none", -7, i -> x.write(0, i, 1));
        Bounds.of("70: a SLOT", 0, 3, -2, s -> x.write(s, 0, 1));
        holds("70: as written", x, 1, 1, new int[] {1, 1, 1, 1, 1, 1, 1, 1, 1, 1, 1, 1, 1, 1, 1, 1, 1,
            1, 1, 1, 1, 0, 0, 0, 0, 0, 0, 0, 0, 0, 0, 0, 0, 0, 0, 0, 0, 0, 0, 1, 1, 1, 1, 1, 1, 1, 1,
            1, 1, 1, 1, 1, 1, 1, 1, 1, 1, 1, 1, 1});
    }

    /** 70: "-2: there is no such SLOT; -6: it has nothing; -7: there is no such number". */
    private static void writeRefused() {
        NeckRider x = Check.told(MEALS);
        int[] numbers = count(x, 0, 2, 9);
        for (int i : new int[] {-1, 0, 9, Bounds.LEAST, Bounds.MOST}) {
            for (int s : Bounds.beyond(0, 3)) {
                Bounds.refused("70: SLOT " + s, x, -2, () -> x.write(s, i, 5));
            }
            for (int s = 1; s < 4; s++) {
                int slot = s;
                Bounds.refused("70: it has nothing", x, -6, () -> x.write(slot, i, 5));
            }
            if (i == 0) continue;
            Bounds.refused("70: no such number", x, -7, () -> x.write(0, i, 5));
        }
        for (int i : Bounds.beyond(0, 8)) {
            Bounds.refused("70: number " + i, x, -7, () -> x.write(0, i, 5));
        }
        holds("70: all as they were", x, 0, 2, numbers);
    }

    /** 70: "is v, cut to its WIDTH": 1, 2, 4 or 8 bytes of it. */
    private static void writeCuts() {
        long[] far = {Long.MIN_VALUE, Long.MAX_VALUE, Long.MIN_VALUE + 7, Bounds.LEAST, Bounds.MOST,
            (long) Bounds.MOST + 1, (long) Bounds.LEAST - 1, 127, 128, 255, 256, 257, 265, 266, -1,
            -128, -129, -255, -256, -247, 32767, 32768, 65535, 65536, 65537, 65545, 65546, -32768,
            -65536, -65527, -65526, 1L << 32, (1L << 32) + 9, (1L << 32) + 10, -(1L << 32) + 4,
            0x7f00000000000000L, 0x0102030405060708L, 0x0100000000000003L, 0x0000000100000003L,
            0x0000000000010003L, 0x0000000000000103L, 3, 0};
        NeckRider x = Check.told(MEALS);
        for (int w = 0; w < 4; w++) {
            int bits = 8 << w;
            for (long v : far) {
                x.row(0, w, 3);
                x.write(0, 0, 5);
                x.write(0, 2, 6);
                Check.due("70: 0", x.write(0, 1, v), 0);
                java.math.BigInteger whole = java.math.BigInteger.ONE.shiftLeft(bits);
                java.math.BigInteger cut = java.math.BigInteger.valueOf(v).mod(whole);
                boolean such = cut.bitLength() < 8 && cut.intValue() <= 9;
                int due = such ? cut.intValue() : STRANGE;
                holds("70: " + v + " of WIDTH " + w, x, 0, w, new int[] {5, due, 6});
            }
        }
    }

    /** 71: "-2: there is no such SLOT", ahead of -6, -7, -8. */
    private static void pasteSlots() {
        NeckRider x = Check.told(MEALS);
        for (int full = 0; full < 2; full++) {
            for (int s : Bounds.beyond(0, 3)) {
                Bounds.refused("71: from " + s, x, -2, () -> x.paste(s, 0, 0, 0, 0));
                Bounds.refused("71: to " + s, x, -2, () -> x.paste(0, 0, s, 0, 0));
                Bounds.refused("71: from and to " + s, x, -2, () -> x.paste(s, -1, s, 9, -1));
                Bounds.refused("71: beyond, too", x, -2, () -> x.paste(1, 99, s, 0, 0));
            }
            for (int s = 0; s < 4; s++) x.row(s, s, 1);
        }
        for (int s = 0; s < 4; s++) {
            Check.due("71: of its own", x.paste(s, 0, s, 0, 1), 0);
            Check.due("71: none of its own", x.paste(s, 1, s, 1, 0), 0);
        }
    }

    /** 71: "-6: one has nothing", ahead of -8 and -7. */
    private static void pasteNothing() {
        NeckRider x = Check.told(MEALS);
        x.row(1, 0, 5);
        for (int i : new int[] {0, -1, 6, Bounds.LEAST, Bounds.MOST}) {
            Bounds.refused("71: from nothing", x, -6, () -> x.paste(0, i, 1, 0, 0));
            Bounds.refused("71: to nothing", x, -6, () -> x.paste(1, 0, 0, i, 0));
            Bounds.refused("71: neither", x, -6, () -> x.paste(2, i, 3, i, i));
            Bounds.refused("71: its own nothing", x, -6, () -> x.paste(2, 0, 2, 0, i));
        }
        x.row(2, 0, 0);
        Check.due("71: an empty row is not nothing", x.paste(2, 0, 1, 0, 0), 0);
        Check.due("71: nor to it", x.paste(1, 0, 2, 0, 0), 0);
        Check.due("71: it has none", x.paste(2, 0, 1, 0, 1), -7);
        Check.due("71: it takes none", x.paste(1, 0, 2, 0, 1), -7);
    }

    /** 71: "-8: they are not of one WIDTH", ahead of -7. */
    private static void pasteWidths() {
        for (int one = 0; one < 4; one++) {
            for (int other = 0; other < 4; other++) {
                if (one == other) continue;
                NeckRider x = Check.told(MEALS);
                int[] from = count(x, 0, one, 5);
                int[] to = count(x, 1, other, 5);
                for (int i : new int[] {0, 5, 6, -1, Bounds.MOST, Bounds.LEAST}) {
                    Bounds.refused("71: widths", x, -8, () -> x.paste(0, i, 1, 0, 0));
                    Bounds.refused("71: widths", x, -8, () -> x.paste(0, 0, 1, i, 1));
                    Bounds.refused("71: widths", x, -8, () -> x.paste(1, 0, 0, 0, i));
                }
                holds("71: as it was", x, 0, one, from);
                holds("71: as it was", x, 1, other, to);
            }
        }
    }

    /** 71: "-7, and nothing happens: some are beyond their rows (also where n is 0 ..)". */
    private static void pasteBeyond() {
        NeckRider x = Check.told(MEALS);
        int[] from = count(x, 0, 3, 4);
        int[] to = count(x, 1, 3, 6);
        int[] far = {-1, 0, 1, 3, 4, 5, 6, 7, Bounds.LEAST, Bounds.LEAST + 1, Bounds.MOST,
            Bounds.MOST - 1, Bounds.MOST - 4};
        int refused = 0;
        for (int i : far) {
            for (int k : far) {
                for (int n : far) {
                    boolean fits = i >= 0 && k >= 0 && n >= 0 && (long) i + n <= 4 && (long) k + n <= 6;
                    if (fits) continue;
                    Check.due("71: " + i + " " + k + " " + n, x.paste(0, i, 1, k, n), -7);
                    Check.due("71: own " + i + " " + n, x.paste(0, i, 0, i, n),
                        i >= 0 && n >= 0 && (long) i + n <= 4 ? 0 : -7);
                    refused++;
                }
            }
        }
        Check.holds("71: some were beyond", refused > 2000);
        int[][] edges = {{0, 0, 5}, {1, 0, 4}, {4, 0, 1}, {5, 0, 0}, {0, 3, 4}, {0, 6, 1}, {0, 7, 0},
            {3, 6, 1}, {-1, 0, 0}, {0, -1, 0}, {0, 0, -1}};
        for (int[] e : edges) {
            Bounds.refused("71: beyond", x, -7, () -> x.paste(0, e[0], 1, e[1], e[2]));
        }
        holds("71: nothing happens", x, 0, 3, from);
        holds("71: nothing happens", x, 1, 3, to);
        int[][] none = {{0, 0}, {4, 6}, {4, 0}, {0, 6}, {2, 3}};
        for (int[] e : none) {
            Bounds.refused("71: none", x, 0, () -> x.paste(0, e[0], 1, e[1], 0));
        }
        holds("71: none is put", x, 1, 3, to);
        Check.due("71: all four, to the end", x.paste(0, 0, 1, 2, 4), 0);
        holds("71: put", x, 1, 3, new int[] {to[0], to[1], from[0], from[1], from[2], from[3]});
        Check.due("71: the last, to the first", x.paste(0, 3, 1, 0, 1), 0);
        holds("71: put", x, 1, 3, new int[] {from[3], to[1], from[0], from[1], from[2], from[3]});
        holds("71: the source stays", x, 0, 3, from);
    }

    /** All 60 at once, of each WIDTH. */
    private static void pasteWhole() {
        for (int w = 0; w < 4; w++) {
            NeckRider x = Check.told(MEALS);
            int[] from = count(x, 0, w, 60);
            count(x, 1, w, 60);
            Check.due("71: 61", x.paste(0, 0, 1, 0, 61), -7);
            Check.due("71: 60 from 1", x.paste(0, 1, 1, 0, 60), -7);
            Check.due("71: 60", x.paste(0, 0, 1, 0, 60), 0);
            holds("71: all of it", x, 1, w, from);
            holds("71: the source stays", x, 0, w, from);
            Check.due("71: its own, as it is", x.paste(1, 0, 1, 0, 60), 0);
            holds("71: all of it", x, 1, w, from);
        }
    }

    /** 71: "(or its own), .. as they were": over each other, either way. */
    private static void pasteIntoItself() {
        int[][] moves = {{0, 1, 59}, {1, 0, 59}, {0, 30, 30}, {30, 0, 30}, {0, 5, 20}, {5, 0, 20},
            {58, 59, 1}, {59, 0, 1}, {0, 59, 1}, {10, 12, 5}, {12, 10, 5}, {7, 7, 9}};
        for (int[] m : moves) {
            NeckRider x = Check.told(MEALS);
            int[] due = count(x, 2, 1, 60);
            System.arraycopy(due.clone(), m[0], due, m[1], m[2]);
            Check.due("71: put", x.paste(2, m[0], 2, m[1], m[2]), 0);
            holds("71: " + m[2] + " from " + m[0] + " to " + m[1], x, 2, 1, due);
        }
    }

    /** 71: rows of unlike lengths, and no other SLOT than the one. */
    private static void pasteOthers() {
        NeckRider x = Check.told(MEALS);
        int[] a = count(x, 0, 2, 3);
        int[] b = count(x, 1, 2, 60);
        int[] c = count(x, 2, 2, 1);
        Check.due("71: put", x.paste(0, 1, 1, 58, 2), 0);
        b[58] = a[1];
        b[59] = a[2];
        Check.due("71: put", x.paste(1, 59, 2, 0, 1), 0);
        c[0] = b[59];
        holds("71: the source", x, 0, 2, a);
        holds("71: the end of it", x, 1, 2, b);
        holds("71: the one of it", x, 2, 2, c);
        // What comes later into the source does not come into what was put.
        x.write(0, 2, 0);
        holds("71: as they were", x, 2, 2, c);
    }

    /** SLOTS need no ISLE. */
    private static void withoutIsle() {
        NeckRider x = new NeckRider();
        Check.due("69: row", x.row(3, 0, 2), 0);
        Check.due("70: write", x.write(3, 1, 8), 0);
        Check.due("70: no such number", x.write(3, 2, 8), -7);
        Check.due("69: row", x.row(0, 0, 2), 0);
        Check.due("71: paste", x.paste(3, 0, 0, 0, 2), 0);
        Check.tell(x, MEALS);
        Check.due("47: 8 is left in HOUR 1", x.rode(0), 2);
        Check.tell(x, "");
        Check.due("71: it stays", x.paste(0, 1, 3, 0, 1), 0);
    }
}
