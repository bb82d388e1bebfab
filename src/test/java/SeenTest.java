/** Promises 47 to 51: how long he rode, by what is left. */
final class SeenTest {
    private SeenTest() { }

    private static void due(NeckRider x, int slot, int fits, int rode, int began, int ask, int leaves) {
        Check.due("47: fits", x.fits(slot), fits);
        Check.due("48: rode", x.rode(slot), rode);
        Check.due("49: began", x.began(slot), began);
        Check.due("50: ask", x.ask(slot), ask);
        Check.due("51: leaves", x.leaves(slot), leaves);
    }

    private static void wrong(NeckRider x, int slot, int answer) {
        due(x, slot, answer, answer, answer, answer, answer);
    }

    static void run() {
        seen();
        wrongOnes();
        withoutBearers();
    }

    private static void seen() {
        NeckRider x = Check.told(IsleTest.SQUARE);
        // One is left on tree 0: from 0 in hour 4, from 1 in 2, from 2 in 1, from 3 in 3.
        Check.seen(x, 0, 0, 1);
        due(x, 0, 4, 0b11110, 15, 2, 2);
        x.offer(2);
        due(x, 0, 4, 0b11110, 15, 2, 2);
        // Both: of those from 0 and 3 (tree 2 is bare then) there is nothing more to tell apart.
        Check.seen(x, 1, 0, 1, 2, 0);
        due(x, 1, 2, 0b11000, 9, -1, 2);
        // Tree 1 is bare only from 4 on, from hour 1 to 8.
        Check.seen(x, 2, 1, 0);
        due(x, 2, 8, 0b111111110, 16, -1, 8);
        Check.seen(x, 3, 2, 1, 2, 0);
        due(x, 3, 0, 0, 0, -1, 0);
        Check.seen(x, 3, 0, 9);
        due(x, 3, 0, 0, 0, -1, 0);
        // An empty row fits all nine moments from five places.
        Check.seen(x, 3);
        Check.due("47: all fit", x.fits(3), 45);
        Check.due("48: all hours", x.rode(3), 511);
        Check.due("49: all places", x.began(3), 31);
        // Tree 0 has 2 left in 19 of them, 1 in 4, 0 in 22; tree 1 1 in 37; tree 2 0 in 24.
        Check.due("50: the best of them", x.ask(3), 0);
        Check.due("51: at worst", x.leaves(3), 22);
        // It is OVER ahead of the hour: what is left stays as it was.
        Check.tell(x, RideTest.DROPPED);
        Check.seen(x, 0, 0, 1);
        // From 0: dropped, 1 is left in 0 .. 5. From 1: a path, 1 in 0 .. 1, eaten in hour 1.
        // From 2: eaten in hour 0.
        due(x, 0, 6 + 2 + 1, 0b111111, 7, -1, 9);
    }

    private static void wrongOnes() {
        NeckRider x = new NeckRider();
        wrong(x, 0, -2);
        Check.tell(x, IsleTest.SQUARE);
        wrong(x, 0, -6);
        wrong(x, 4, -2);
        wrong(x, -1, -2);
        Check.seen(x, 0, 0, 1, 2);
        wrong(x, 0, -2);
        Check.seen(x, 0, 3, 1);
        wrong(x, 0, -2);
        Check.seen(x, 0, -1, 1);
        wrong(x, 0, -2);
        Check.seen(x, 0, 0, 10);
        wrong(x, 0, -2);
        Check.seen(x, 0, 0, -1);
        wrong(x, 0, -2);
        Check.seen(x, 0, 0, 1, 0, 1, 5, 5);
        wrong(x, 0, -2);
        x.row(1, 3, 2);
        x.write(1, 0, 4294967296L);
        wrong(x, 1, -2);
        x.write(1, 0, 0);
        x.write(1, 1, 4294967297L);
        wrong(x, 1, -2);
        x.write(1, 1, 1);
        Check.due("47: of any width", x.fits(1), 4);
        Check.tell(x, " ");
        wrong(x, 1, -2);
        wrong(x, 2, -2);
    }

    /** FITS are PLACES at which he began on BEARER 0: without one there are none. */
    private static void withoutBearers() {
        NeckRider x = Check.told(RideTest.RIDERLESS);
        Check.seen(x, 0, 0, 2);
        due(x, 0, 0, 0, 0, -1, 0);
        Check.seen(x, 0, 0, 10);
        wrong(x, 0, -2);
        wrong(x, 1, -6);
    }
}
