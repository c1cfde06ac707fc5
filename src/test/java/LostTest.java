/** Promises 41 to 50: a mirror that was lost, ties, and all of it. */
public final class LostTest {
    private LostTest() {
    }

    private static Moonmirror withMirrors(int... depths) {
        Moonmirror x = new Moonmirror();
        for (int depth : depths) {
            x.mirror(depth, 1, 0);
        }
        return x;
    }

    private static void promise41Search() {
        Moonmirror x = new Moonmirror();
        Checks.index(x, () -> x.search(0, 0, 0));
        x.mirror(-99, 9, 0);
        x.mirror(-87, 2, 0);
        x.mirror(99, 1, 8);
        Checks.index(x, () -> x.search(3, 0, 0));
        Checks.index(x, () -> x.search(-1, 0, -1));
        Checks.index(x, () -> x.search(0, -1, 0));
        Checks.index(x, () -> x.search(0, 16, 100));
        Checks.argument(x, () -> x.search(0, 0, -1));
        Checks.argument(x, () -> x.search(0, 0, 100));
        // 13 modulo 64 is below 7 * 2, and not below 7: the depth -87 is in the tile 0, and 99 in 15.
        Checks.due(true, () -> x.search(1, 0, 0));
        Checks.due(64, () -> x.belief(0));
        Checks.due(1, () -> x.many(10));
        Checks.due(true, () -> x.search(1, 0, 0));
        Checks.due(1, () -> x.many(10));
        Checks.due(false, () -> x.search(2, 15, 0));
        Checks.due(57, () -> x.belief(15));
        // 57 * 57 / 64 is 50.
        Checks.due(false, () -> x.search(2, 15, 0));
        Checks.due(50, () -> x.belief(15));
        // Not in it, whatever is drawn.
        Checks.due(false, () -> x.search(0, 1, 0));
        Checks.due(1, () -> x.belief(1));
        Checks.due(false, () -> x.search(0, 1, 0));
        Checks.due(0, () -> x.belief(1));
        // The first number of 5 is 61: of a size of 9 it is below 63.
        Checks.due(true, () -> x.search(0, 0, 5));
        Checks.due(2, () -> x.many(10));
        Checks.due(false, () -> x.search(1, 0, 5));
        Checks.due(50, () -> x.belief(0));
        // The first number of 81 is 63; that of 12 is 64, which is 0.
        Checks.due(false, () -> x.search(0, 0, 81));
        Checks.due(0, () -> x.belief(0));
        Checks.due(true, () -> x.search(2, 15, 12));
        // The first number of 50 is 65, which is 1 modulo 64.
        Checks.due(true, () -> x.search(2, 15, 50));
        Checks.due(3, () -> x.many(10));
    }

    private static void promise41Tiles() {
        Moonmirror x = withMirrors(-99, -87, -86, 0, 96);
        int[] tiles = {0, 0, 1, 7, 15};
        for (int k = 0; k < tiles.length; k++) {
            for (int tile = 0; tile <= 15; tile++) {
                int mirror = k;
                int asked = tile;
                Checks.due(tile == tiles[k], () -> x.search(mirror, asked, 50));
            }
        }
        // The first number of 33 is 73, which is 9; that of 6 is 92, which is 28; of 7 it is 16.
        Moonmirror edge = new Moonmirror();
        edge.mirror(0, 4, 0);
        Checks.due(false, () -> edge.search(0, 7, 6));
        Checks.due(true, () -> edge.search(0, 7, 7));
    }

    private static void promise42Hint() {
        Moonmirror x = new Moonmirror();
        Checks.index(x, () -> x.hint(-1, 10));
        Checks.index(x, () -> x.hint(16, 1));
        Checks.argument(x, () -> x.hint(0, -1));
        Checks.argument(x, () -> x.hint(0, 10));
        Checks.due(64, () -> x.hint(0, 1));
        Checks.due(576, () -> x.hint(0, 9));
        Checks.due(4032, () -> x.hint(0, 7));
        Checks.due(4096, () -> x.hint(0, 2));
        Checks.due(4096, () -> x.hint(0, 1));
        Checks.due(0, () -> x.hint(15, 0));
        Checks.due(0, () -> x.hint(15, 9));
        Checks.due(64, () -> x.belief(1));
    }

    private static void promise43Belief() {
        Moonmirror x = new Moonmirror();
        Checks.index(x, () -> x.belief(-2));
        Checks.index(x, () -> x.belief(16));
        Checks.due(0, () -> x.belief(-1));
        x.hint(0, 0);
        Checks.due(1, () -> x.belief(-1));
        x.hint(15, 2);
        Checks.due(15, () -> x.belief(-1));
        x.hint(9, 2);
        Checks.due(9, () -> x.belief(-1));
        Checks.due(128, () -> x.belief(15));
        Checks.due(0, () -> x.belief(0));
        for (int tile = 0; tile <= 15; tile++) {
            x.hint(tile, 0);
        }
        Checks.due(0, () -> x.belief(-1));
    }

    private static void promise44Tie() {
        Moonmirror x = withMirrors(0, 10);
        Checks.index(x, () -> x.tie(2, 0, 0));
        Checks.index(x, () -> x.tie(0, 2, 0));
        Checks.index(x, () -> x.tie(-1, -1, 0));
        Checks.index(x, () -> x.tie(0, -1, 999));
        Checks.argument(x, () -> x.tie(1, 1, 0));
        Checks.argument(x, () -> x.tie(0, 1, -301));
        Checks.argument(x, () -> x.tie(0, 1, 301));
        Checks.due(1, () -> x.tie(0, 1, -300));
        Checks.due(2, () -> x.tie(0, 1, 300));
        for (int k = 3; k <= 10; k++) {
            int due = k;
            Checks.due(due, () -> x.tie(1, 0, 0));
        }
        Checks.state(x, () -> x.tie(1, 0, 0));
        Checks.argument(x, () -> x.tie(0, 0, 0));
        Checks.due(10, () -> x.many(11));
        Checks.due(310 + 290 + 8 * 10, () -> x.map(3));
    }

    private static void promise45Map() {
        Moonmirror x = new Moonmirror();
        Checks.argument(x, () -> x.map(-1));
        Checks.argument(x, () -> x.map(4));
        Checks.due(0, () -> x.map(2));
        for (int depth : new int[] {0, 10, 30, 60, -40}) {
            x.mirror(depth, 1, 0);
        }
        Checks.due(1, () -> x.map(2));
        x.tie(2, 1, -25);
        Checks.due(1, () -> x.map(2));
        Checks.due(5, () -> x.map(3));
        x.tie(0, 1, 12);
        Checks.due(3, () -> x.map(2));
        Checks.due(0, () -> x.map(1));
        Checks.due(0, () -> x.map(0));
        // 0 to 1 12, 1 to 2 25, 2 to 0 -30.
        x.tie(2, 0, -30);
        Checks.due(1, () -> x.map(1));
        Checks.due(7, () -> x.map(0));
        Checks.due(7, () -> x.map(3));
        // The first tie of both is the one that is taken.
        x.tie(0, 1, 300);
        Checks.due(7, () -> x.map(0));
        Checks.due(1, () -> x.map(1));
        Checks.due(297, () -> x.map(3));
        // 0 to 2 30, 2 to 3 -70, 3 to 0 20: -20.
        x.tie(4, 3, 100);
        Checks.due(3, () -> x.map(2));
        x.tie(2, 3, -70);
        Checks.due(5, () -> x.map(2));
        x.tie(0, 3, -20);
        Checks.due(2, () -> x.map(1));
        Checks.due(20, () -> x.map(0));
        // 1 to 2 25, 2 to 3 -70, 3 to 1 -1, and 0 to 1 12, 1 to 3 1, 3 to 0 20.
        x.tie(1, 3, 1);
        Checks.due(4, () -> x.map(1));
        Checks.due(46, () -> x.map(0));
    }

    private static Moonmirror withAll() {
        Moonmirror x = new Moonmirror();
        x.ephemeris(0);
        x.ephemeris(1);
        x.term(1, 4, 0, 0);
        x.term(0, 4, 0, 0);
        x.term(0, 4, 0, 0);
        x.station(0, 0, 0, 0, 9);
        x.mirror(0, 9, 0);
        x.mirror(5, 9, 0);
        x.mirror(9, 9, 0);
        x.give(0, 2);
        for (int k = 0; k < 10; k++) {
            x.shoot(0, 0, 0, 0, 4, 0);
        }
        x.shoot(0, 0, 13 * 12, 0, 4, 0);
        x.shoot(0, 0, 14 * 12, 0, 4, 0);
        x.publish(0);
        x.plant(0, 0, 340, 1, -400, 9);
        x.plant(0, 0, 341, 1, 400, 9);
        x.plant(0, 0, 341, 1, 400, 9);
        x.flag(2, 3);
        x.claim(0, 0, 1);
        x.search(0, 7, 0);
        x.tie(0, 1, 7);
        return x;
    }

    private static void promise46Many() {
        Moonmirror x = withAll();
        Checks.argument(x, () -> x.many(-1));
        Checks.argument(x, () -> x.many(13));
        int[] due = {2, 1, 3, 8, 10, 2, 4, 3, 3, 1, 1, 1, 3};
        for (int k = 0; k < due.length; k++) {
            int what = k;
            Checks.due(due[k], () -> x.many(what));
        }
    }

    private static void promise47Tell() {
        Moonmirror x = withAll();
        Checks.index(x, () -> x.tell(4));
        Checks.index(x, () -> x.tell(-1));
        Checks.due("0 of 0 at 0.0 by 0: -20 (4) v1", () -> x.tell(0));
        Checks.due("1 of 0 at 28.4 by 1: -400 (9) v1 unseen", () -> x.tell(1));
        Checks.due("2 of 0 at 28.5 by 1: 400 (9) v1 flagged unseen", () -> x.tell(2));
        x.amend(0, 0);
        x.amend(0, 7);
        Checks.due("0 of 0 at 0.0 by 0: 7 (4) v3 flagged", () -> x.tell(0));
        x.station(0, 0, 0, 0, 9);
        x.plant(1, 2, 4319, 0, 0, 1);
        Checks.due("4 of 1 at 359.11 by 0: 0 (1) v1 unseen", () -> x.tell(4));
    }

    private static void promise48IsSound() {
        Moonmirror x = withAll();
        Checks.due(true, () -> x.isSound());
        x.close(0);
        Checks.due(true, () -> x.isSound());
        x.amend(0, 1);
        x.archive(0, 0, 359, 64);
        Checks.due(true, () -> x.isSound());
        x.give(0, 1);
        x.shoot(0, 0, 12, 0, 60, 0);
        Checks.due(true, () -> x.isSound());
    }

    private static void promise49Knock() {
        Moonmirror x = new Moonmirror();
        Checks.due(1, () -> x.knock());
        Checks.due(2, () -> x.knock());
        long before = x.digest();
        Checks.due(3, () -> x.knock());
        Checks.due(before, () -> x.digest());
        Checks.due(1, () -> new Moonmirror().knock());
    }

    private static long checksum(long... numbers) {
        long d = 58276;
        for (long v : numbers) {
            d = d * 31 + v;
        }
        return d;
    }

    private static void promise50Digest() {
        Moonmirror x = new Moonmirror();
        Checks.due(checksum(0, 0, 0, 0, 0, 0, 0, 0, 0, 0, 0, 0, 0,
                64, 64, 64, 64, 64, 64, 64, 64, 64, 64, 64, 64, 64, 64, 64, 64, 0, 0, 0, 0, 0, 1), () -> x.digest());
        x.ephemeris(7);
        x.station(3, 0, 0, 0, 9);
        x.mirror(3, 9, 0);
        x.give(0, 5);
        x.shoot(0, 0, 0, 0, 4, 0);
        x.publish(0);
        x.plant(0, 0, 12 * 100, 0, 30, 2);
        x.hint(4, 3);
        long[] due = {
            1, 1, 1, 1, 1, 0, 2, 2, 1, 0, 0, 0, 0,
            7, 7, 4 * 80 * 80 + 2 * 120 * 120, 14,
            5, 1, 1, 2, 0, 3, 23, -20, -1, 1, 2, 80,
            0, 0, 0, 0, 4, -1, 4, 1, 0,
            0, 0, 0, 0, -20, 4, 0, 1, 1, -20, 1,
            0, 0, 1200, 0, 30, 2, 0, 1, 0, 30, 1,
            64, 64, 64, 64, 192, 64, 64, 64, 64, 64, 64, 64, 64, 64, 64, 64, 4,
            0, 0, 1, 0, 1};
        Checks.due(checksum(due), () -> x.digest());
        Checks.due(checksum(due), () -> x.digest());
        // What is asked changes nothing, but a claim.
        x.bestUnknown(0);
        x.turned(0, true);
        x.fit(0, 1, -1, 0);
        x.tell(0);
        Checks.due(checksum(due), () -> x.digest());
        x.claim(0, 14, 1);
        due[9] = 1;
        Checks.due(checksum(due), () -> x.digest());
    }

    public static void main(String[] args) {
        promise41Search();
        promise41Tiles();
        promise42Hint();
        promise43Belief();
        promise44Tie();
        promise45Map();
        promise46Many();
        promise47Tell();
        promise48IsSound();
        promise49Knock();
        promise50Digest();
        Checks.end();
    }
}
