/** Promises 58 to 62, 65, 67 and 68: acts, fruit that grows, images. */
final class ActsTest {
    private ActsTest() { }

    static void run() {
        offers();
        carries();
        tosses();
        otherOrder();
        takenBack();
        grows();
        images();
        imageOfNothing();
    }

    private static void offers() {
        NeckRider x = Check.told(IsleTest.SQUARE.replace("vine at 3 ripe 2",
            "vine at 3 ripe 2;vine at 3 ripe 0"));
        Check.due("58: no vine there", x.offer(0), 0);
        Check.due("58: an act all the same", x.count(8), 1);
        Check.due("58: an act in it", x.offer(0), -5);
        Check.due("58: none such", x.offer(8), -2);
        Check.due("58: none such", x.offer(-1), -2);
        Check.due("58: the ripe one", x.offer(1), 1);
        Check.due("58: drunk already", x.offer(2), 0);
        Check.due("58: drunk already", x.offer(3), 0);
        Check.due("58: the other one", x.offer(4), 1);
        Check.due("19: drunk from 1 to 6", x.drunk(6), 1);
        Check.due("19: sober again", x.drunk(7), 0);
        Check.due("58: all drunk up", x.offer(7), 0);
        Check.due("18: it goes on as without", x.does(7), 2);
        Check.due("66: acts", x.count(8), 6);
        Check.tell(x, IsleTest.SQUARE.replace("ripe 2", "ripe 3"));
        Check.due("58: not ripe yet", x.offer(2), 0);
        Check.due("18: he goes on", x.does(2), 3);
        Check.tell(x, IsleTest.SQUARE);
        Check.due("58: ripe in this hour", x.offer(2), 1);
        Check.due("18: he sleeps", x.does(2), 1);
        Check.due("18: and sleeps", x.does(4), 1);
        Check.due("13: he stays", x.at(5), 3);
    }

    private static void carries() {
        NeckRider x = Check.told(IsleTest.SQUARE);
        Check.due("59: not drunk", x.carry(0, 1), 0);
        Check.due("13: his own way", x.at(1), 3);
        Check.due("59: an act in it", x.carry(0, 1), -5);
        Check.due("59: none such goes ahead", x.carry(0, 5), -2);
        Check.due("59: none such", x.carry(8, 0), -2);
        Check.due("59: none such", x.carry(1, -1), -2);
        Check.due("58: wine", x.offer(2), 1);
        Check.due("59: no path", x.carry(3, 1), 0);
        Check.due("18: he sleeps", x.does(3), 1);
        Check.due("59: by a path", x.carry(4, 0), 1);
        Check.due("18: carried", x.does(4), 3);
        Check.due("13: there", x.at(5), 0);
        Check.due("16: tired", x.tired(0, 5), 4);
        Check.due("59: sober", x.carry(5, 1), 0);
        Check.tell(x, RideTest.DROPPED.replace("vine at 2", "vine at 1"));
        x.offer(1);
        Check.due("59: carried, and dropped", x.carry(2, 2), 1);
        Check.due("20: over", x.over(), 2);
        Check.due("21: dropped", x.how(), 0);
        Check.due("59: nobody to carry", x.carry(3, 1), 0);
    }

    private static void tosses() {
        NeckRider x = Check.told(IsleTest.SQUARE);
        Check.due("60: not drunk", x.toss(3), 0);
        Check.due("60: an act in it", x.toss(3), -5);
        Check.due("60: none such", x.toss(8), -2);
        Check.due("60: none such", x.toss(-1), -2);
        x.anew();
        x.offer(2);
        Check.due("60: no brook", x.toss(3), 0);
        Check.due("18: he sleeps", x.does(3), 1);
        x.undo();
        x.carry(3, 2);
        Check.due("60: thrown", x.toss(4), 1);
        Check.due("20: over", x.over(), 4);
        Check.due("60: thrown already", x.toss(5), 0);
        x.anew();
        Check.due("60: in a brook, sober", x.toss(4), 0);
        Check.due("18: he eats", x.does(4), 2);
    }

    private static void otherOrder() {
        NeckRider x = Check.told(IsleTest.SQUARE);
        Check.due("60: not yet", x.toss(4), 0);
        Check.due("59: not yet", x.carry(3, 2), 0);
        Check.due("58: wine", x.offer(2), 1);
        Check.due("20: now they work", x.over(), 4);
        Check.due("61: the latest, not the last", x.undo(), 2);
        Check.due("20: not over", x.over(), -1);
        Check.due("61: the latest", x.undo(), 1);
        Check.due("58: free again", x.offer(3), 0);
        Check.due("60: still there", x.toss(4), -5);
    }

    private static void takenBack() {
        NeckRider x = Check.told(IsleTest.SQUARE);
        Check.due("61: there is none", x.undo(), -5);
        Check.due("62: none", x.anew(), 0);
        x.offer(2);
        x.toss(3);
        Check.due("61: undo", x.undo(), 1);
        Check.due("61: undo", x.undo(), 0);
        Check.due("61: there is none", x.undo(), -5);
        asWithout(x);
        x.offer(2);
        x.toss(3);
        Check.due("62: anew", x.anew(), 2);
        Check.due("62: all are", x.count(8), 0);
        asWithout(x);
        for (int h = 0; h < 8; h++) x.toss(h);
        Check.due("62: as many as hours", x.anew(), 8);
    }

    private static void asWithout(NeckRider x) {
        int[] places = {0, 3, 3, 2, 2, 2, 2, 2, 2};
        for (int h = 0; h < places.length; h++) {
            Check.due("13: as without, " + h, x.at(h), places[h]);
            Check.due("14: as without, " + h, x.on(h), 0);
        }
    }

    private static void grows() {
        NeckRider x = Check.told(IsleTest.SQUARE);
        Check.due("65: grow", x.grow(0, 9), 2);
        Check.due("65: as told", x.tree(0, 1), 9);
        Check.due("65: left", x.left(0), 11);
        Check.due("65: he eats on", x.eats(), 6);
        Check.due("65: grow", x.grow(0, 0), 9);
        Check.due("12: as told", x.steers(2), 2);
        Check.due("65: none such", x.grow(3, 1), -2);
        Check.due("65: none such", x.grow(-1, 1), -2);
        Check.due("65: fruit 10", x.grow(0, 10), -2);
        Check.due("65: fruit -1", x.grow(0, -1), -2);
        x.toss(7);
        Check.due("65: acts", x.grow(0, 1), -5);
        Check.due("65: none such goes ahead", x.grow(3, 1), -2);
        Check.due("65: nothing grew", x.tree(0, 1), 0);
        x.undo();
        Check.due("65: taken back", x.grow(0, 1), 0);
    }

    private static void images() {
        NeckRider x = Check.told(IsleTest.SQUARE);
        x.offer(2);
        x.toss(4);
        x.carry(3, 2);
        Check.due("67: image", x.image(0), 0);
        Check.due("67: none such", x.image(3), -2);
        Check.due("67: none such", x.image(-1), -2);
        Check.due("68: nothing", x.back(1), -6);
        Check.due("68: none such", x.back(3), -2);
        Check.due("68: none such", x.back(-1), -2);
        x.row(1, 0, 3);
        x.anew();
        x.grow(0, 7);
        x.image(1);
        Check.tell(x, RideTest.DROPPED);
        x.feed(0, 0, 0, 0, 0);
        Check.due("68: back", x.back(0), 0);
        Check.due("68: the isle", x.count(9), 13);
        Check.due("68: its acts", x.count(8), 3);
        Check.due("68: it is over", x.over(), 4);
        Check.due("68: fruit as it was", x.tree(0, 1), 2);
        Check.due("68: the tape stays", x.count(10), 20);
        Check.due("68: slots stay", x.count(11), 1);
        Check.due("61: in their order", x.undo(), 2);
        Check.due("61: the carry is gone", x.carry(3, 1), 0);
        Check.due("68: back again, untouched", x.back(0), 0);
        Check.due("68: it is over", x.over(), 4);
        Check.due("68: the other one", x.back(1), 0);
        Check.due("68: grown", x.tree(0, 1), 7);
        Check.due("68: no acts", x.count(8), 0);
        x.image(0);
        x.back(0);
        Check.due("67: in place of another", x.tree(0, 1), 7);
    }

    private static void imageOfNothing() {
        NeckRider x = new NeckRider();
        Check.due("67: no isle", x.image(2), 0);
        Check.tell(x, IsleTest.SQUARE);
        x.offer(2);
        Check.due("68: back", x.back(2), 0);
        Check.due("68: no isle", x.over(), -2);
        Check.due("68: no acts", x.count(8), 0);
        Check.due("68: no lines", x.count(9), 0);
    }
}
