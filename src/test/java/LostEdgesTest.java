import java.util.ArrayList;
import java.util.List;

/** Sections 6 and 7 and what is asked of all, sentence by sentence: each that names an edge has its test. */
public final class LostEdgesTest {
    private LostEdgesTest() {
    }

    private static Moonmirror withMirrors(int... depths) {
        Moonmirror x = new Moonmirror();
        for (int depth : depths) {
            x.mirror(depth, 1, 0);
        }
        return x;
    }

    // ---- section 6

    /** TILES are 0 to 15: the TILE of a DEPTH is (DEPTH + 99) / 13. */
    private static void tiles() {
        int[] depths = {-99, -87, -86, -74, -73, 4, 5, 82, 83, 95, 96, 99};
        int[] tiles = {0, 0, 1, 1, 2, 7, 8, 13, 14, 14, 15, 15};
        for (int k = 0; k < depths.length; k++) {
            Moonmirror x = withMirrors(depths[k]);
            for (int tile = 0; tile <= 15; tile++) {
                int asked = tile;
                // The first number of 12 is 64, which is 0 modulo 64.
                Checks.due(tile == tiles[k], () -> x.search(0, asked, 12));
                Checks.due(tile == tiles[k] ? 64 : 57, () -> x.belief(asked));
            }
        }
        Moonmirror x = withMirrors(0);
        Checks.index(x, () -> x.search(0, -1, 0));
        Checks.index(x, () -> x.search(0, 16, 0));
        Checks.index(x, () -> x.search(1, 0, 0));
        Checks.index(x, () -> x.hint(-1, 1));
        Checks.index(x, () -> x.hint(16, 1));
    }

    /** If DRAWN (the first number of the ROW) modulo 64 is below 7 * SIZE, it is FOUND. */
    private static void belowSevenTimesTheSize() {
        // The seeds 55 and 26 give 6 and 70, 93 and 64 give 7 and 71; 78 and 9 77 and 78; 98 and 29 55 and 56.
        int[][] cases = {{1, 55, 1}, {1, 26, 1}, {1, 93, 0}, {1, 64, 0}, {1, 12, 1}, {1, 41, 1}, {2, 78, 1}, {2, 0, 1},
            {2, 9, 0}, {2, 38, 0}, {8, 98, 1}, {8, 29, 0}, {9, 43, 1}, {9, 81, 0}, {9, 99, 1}, {3, 99, 0}, {4, 99, 1}};
        int[] left = {64, 57, 50, 43, 36, 29, 22, 15, 8, 1};
        for (int[] one : cases) {
            Moonmirror x = new Moonmirror();
            x.mirror(0, one[0], 8);
            Checks.due(one[2] == 1, () -> x.search(0, 7, one[1]));
            Checks.due(one[2], () -> x.many(10));
            Checks.due(one[2] == 1 ? 64 : left[one[0]], () -> x.belief(7));
        }
        Moonmirror x = withMirrors(0);
        Checks.argument(x, () -> x.search(0, 7, -1));
        Checks.argument(x, () -> x.search(0, 7, 100));
        Checks.index(x, () -> x.search(0, 16, 100));
        Checks.index(x, () -> x.search(1, 7, 100));
    }

    /** Otherwise BELIEF of that TILE is (64 - 7 * SIZE) / 64 of what it was, 0 at least. */
    private static void whatItWas() {
        int[][] due = {{57, 50, 44, 39, 34}, {50, 39, 30, 23, 17}, {43, 28, 18, 12, 8}, {36, 20, 11, 6, 3},
            {29, 13, 5, 2, 0}, {22, 7, 2, 0, 0}, {15, 3, 0, 0, 0}, {8, 1, 0, 0, 0}, {1, 0, 0, 0, 0}};
        for (int size = 1; size <= 9; size++) {
            Moonmirror x = new Moonmirror();
            x.mirror(0, size, 0);
            for (int times = 0; times < 5; times++) {
                int left = due[size - 1][times];
                // Where it is not, it is not found, whatever is drawn.
                Checks.due(false, () -> x.search(0, 15, 12));
                Checks.due(left, () -> x.belief(15));
                Checks.due(64, () -> x.belief(14));
            }
        }
        Moonmirror x = withMirrors(0);
        x.hint(3, 9);
        x.hint(3, 9);
        Checks.due(false, () -> x.search(0, 3, 0));
        Checks.due(3648, () -> x.belief(3));
        x.hint(3, 0);
        Checks.due(false, () -> x.search(0, 3, 0));
        Checks.due(0, () -> x.belief(3));
    }

    /** MIRRORS that were FOUND: one that is found twice is one. */
    private static void foundOnce() {
        Moonmirror x = withMirrors(0, 0, 99);
        for (int k = 0; k < 2; k++) {
            Checks.due(true, () -> x.search(1, 7, 12));
            Checks.due(1, () -> x.many(10));
        }
        Checks.due(false, () -> x.search(0, 7, 93));
        Checks.due(1, () -> x.many(10));
        // What was found is not lost again by a search that is in vain.
        Checks.due(false, () -> x.search(1, 7, 93));
        Checks.due(1, () -> x.many(10));
        Checks.due(true, () -> x.search(2, 15, 12));
        Checks.due(2, () -> x.many(10));
        Checks.due(true, () -> x.search(0, 7, 12));
        Checks.due(3, () -> x.many(10));
    }

    /** A HINT: BELIEF of a TILE is so many times (0 to 9) what it was (4096 at most). */
    private static void beliefs4096AtMost() {
        Moonmirror x = withMirrors(0);
        Checks.due(512, () -> x.hint(0, 8));
        Checks.due(4096, () -> x.hint(0, 8));
        Checks.due(4096, () -> x.hint(0, 1));
        Checks.due(4096, () -> x.hint(0, 9));
        Checks.due(576, () -> x.hint(1, 9));
        Checks.due(4032, () -> x.hint(1, 7));
        Checks.due(4096, () -> x.hint(1, 2));
        // 57 * 8 * 9 is 4104, 57 * 8 * 8 is 3648.
        x.search(0, 2, 0);
        x.search(0, 4, 0);
        Checks.due(456, () -> x.hint(2, 8));
        Checks.due(4096, () -> x.hint(2, 9));
        Checks.due(456, () -> x.hint(4, 8));
        Checks.due(3648, () -> x.hint(4, 8));
        Checks.due(0, () -> x.hint(4, 0));
        Checks.due(0, () -> x.hint(4, 9));
        Checks.due(64, () -> x.hint(15, 1));
        Checks.argument(x, () -> x.hint(15, 10));
        Checks.argument(x, () -> x.hint(15, -1));
        Checks.index(x, () -> x.hint(16, 10));
    }

    /** NEXT is the TILE with the greatest BELIEF; of several the first one. */
    private static void nextTile() {
        Moonmirror x = withMirrors(0);
        Checks.due(0, () -> x.belief(-1));
        x.hint(15, 2);
        Checks.due(15, () -> x.belief(-1));
        x.hint(14, 2);
        Checks.due(14, () -> x.belief(-1));
        x.hint(0, 2);
        Checks.due(0, () -> x.belief(-1));
        x.hint(1, 3);
        Checks.due(1, () -> x.belief(-1));
        x.search(0, 1, 0);
        Checks.due(171, () -> x.belief(1));
        Checks.due(1, () -> x.belief(-1));
        for (int tile = 0; tile < 15; tile++) {
            int at = tile;
            x.hint(tile, 0);
            Checks.due(at == 0 ? 1 : at < 14 ? 14 : 15, () -> x.belief(-1));
        }
        Checks.due(15, () -> x.belief(-1));
        x.hint(15, 0);
        Checks.due(0, () -> x.belief(-1));
        Checks.due(0, () -> x.belief(15));
        Checks.index(x, () -> x.belief(-2));
        Checks.index(x, () -> x.belief(16));
    }

    // ---- section 7

    /** TIES: at most 10, each between two MIRRORS, with a length (-300 to 300). */
    private static void tenTies() {
        Moonmirror x = withMirrors(0, 99, -99);
        Checks.argument(x, () -> x.tie(0, 0, 0));
        Checks.argument(x, () -> x.tie(0, 1, 301));
        Checks.argument(x, () -> x.tie(0, 1, -301));
        for (int k = 1; k <= 10; k++) {
            int number = k;
            Checks.due(number, () -> x.tie(number % 2 == 0 ? 2 : 1, number % 2 == 0 ? 1 : 2, number % 2 == 0 ? 300 : -300));
            Checks.due(number, () -> x.many(11));
            // From 99 to -99 it is -198.
            Checks.due(102 * number, () -> x.map(3));
        }
        Checks.state(x, () -> x.tie(0, 1, 0));
        Checks.argument(x, () -> x.tie(0, 0, 0));
        Checks.index(x, () -> x.tie(0, 3, 301));
        Checks.due(10, () -> x.many(11));
        Checks.due(1, () -> x.map(2));
        Checks.due(0, () -> x.map(1));
        Checks.due(0, () -> x.map(0));
    }

    /** A ring of three different MIRRORS, one TIE for each two, the first one that was told, either way round. */
    private static void firstTieOfTwo() {
        int[][] orders = {{0, 1, 10, 1, 2, 20, 2, 0, -25}, {1, 0, -10, 2, 1, -20, 0, 2, 25}, {2, 0, -25, 1, 0, -10, 1, 2, 20}};
        for (int[] one : orders) {
            Moonmirror x = withMirrors(0, 0, 0);
            for (int k = 0; k < 9; k += 3) {
                Checks.due(0, () -> x.map(1));
                Checks.due(0, () -> x.map(0));
                x.tie(one[k], one[k + 1], one[k + 2]);
            }
            Checks.due(1, () -> x.map(1));
            Checks.due(5, () -> x.map(0));
            // A later one of the same two, whichever way round, is not looked at, and makes no ring.
            x.tie(one[0], one[1], 300);
            x.tie(one[1], one[0], 300);
            x.tie(one[4], one[3], 300);
            Checks.due(1, () -> x.map(1));
            Checks.due(5, () -> x.map(0));
        }
        // Two MIRRORS with three TIES are no ring.
        Moonmirror two = withMirrors(0, 0);
        for (int k = 0; k < 3; k++) {
            two.tie(k % 2, 1 - k % 2, 7);
        }
        Checks.due(0, () -> two.map(1));
        Checks.due(0, () -> two.map(0));
    }

    /** The greatest amount of a MISCLOSURE (0 without a ring). */
    private static void greatestAmount() {
        Moonmirror x = withMirrors(0, 0, 0, 0, 0);
        for (int a = 0; a < 5; a++) {
            for (int b = a + 1; b < 5; b++) {
                x.tie(a, b, 0);
            }
        }
        Checks.due(10, () -> x.map(1));
        Checks.due(0, () -> x.map(0));
        Checks.due(5, () -> x.map(2));
        // 0 to 1, 1 to 2, and 2 to 0: 300 each is the greatest that there can be; once each way round.
        for (int sign = -1; sign <= 1; sign += 2) {
            Moonmirror most = withMirrors(0, 0, 0);
            most.tie(0, 1, 300 * sign);
            most.tie(1, 2, 300 * sign);
            most.tie(2, 0, 300 * sign);
            Checks.due(900, () -> most.map(0));
        }
        // Of 5 above 0 and 6 below it, and the other way round.
        for (int sign = -1; sign <= 1; sign += 2) {
            Moonmirror both = withMirrors(0, 0, 0, 0);
            both.tie(0, 1, 5 * sign);
            both.tie(1, 2, 0);
            both.tie(2, 0, 0);
            both.tie(3, 0, -1 * sign);
            both.tie(1, 3, -10 * sign);
            // 0, 1, 3: 5 - 10 - 1.
            Checks.due(2, () -> both.map(1));
            Checks.due(6, () -> both.map(0));
        }
    }

    /** TIED are MIRRORS that hang together by TIES: how many to the MIRROR 0, with it (0 without MIRRORS). */
    private static void tied() {
        Moonmirror x = new Moonmirror();
        Checks.due(0, () -> x.map(2));
        x.mirror(0, 1, 0);
        Checks.due(1, () -> x.map(2));
        for (int k = 1; k < 5; k++) {
            x.mirror(0, 1, 0);
        }
        Checks.due(1, () -> x.map(2));
        x.tie(4, 3, 0);
        x.tie(3, 2, 0);
        x.tie(2, 1, 0);
        Checks.due(1, () -> x.map(2));
        // The last one ties them all, told against the order in which they are reached.
        x.tie(1, 0, 0);
        Checks.due(5, () -> x.map(2));
        Moonmirror y = withMirrors(0, 0, 0, 0, 0);
        y.tie(1, 2, 0);
        y.tie(3, 4, 0);
        Checks.due(1, () -> y.map(2));
        y.tie(0, 4, 0);
        Checks.due(3, () -> y.map(2));
        y.tie(0, 4, 0);
        Checks.due(3, () -> y.map(2));
        y.tie(2, 3, 0);
        Checks.due(5, () -> y.map(2));
    }

    /** The sum of amounts by which TIES differ from DEPTHS: DEPTH of the second one less DEPTH of the first one. */
    private static void differFromDepths() {
        Moonmirror x = withMirrors(-99, 99);
        Checks.due(0, () -> x.map(3));
        x.tie(0, 1, 198);
        Checks.due(0, () -> x.map(3));
        x.tie(1, 0, -198);
        Checks.due(0, () -> x.map(3));
        x.tie(0, 1, 199);
        Checks.due(1, () -> x.map(3));
        x.tie(0, 1, 197);
        Checks.due(2, () -> x.map(3));
        x.tie(0, 1, -300);
        Checks.due(500, () -> x.map(3));
        x.tie(1, 0, 300);
        Checks.due(998, () -> x.map(3));
    }

    // ---- all of it

    /** A line: " flagged" with any FLAG, and " unseen" if it was planted. */
    private static void lines() {
        Moonmirror x = new Moonmirror();
        for (int k = 0; k < 4; k++) {
            x.ephemeris(0);
            x.station(0, 0, 0, 0, 9);
            x.mirror(0, 9, 0);
        }
        x.give(3, 1);
        x.shoot(3, 2, 11, 3, 60, 0);
        x.publish(0);
        x.plant(0, 0, 4319, 0, -400, 9);
        Checks.due("0 of 3 at 0.11 by 3: 16 (9) v1", () -> x.tell(0));
        Checks.due("1 of 0 at 359.11 by 0: -400 (9) v1 unseen", () -> x.tell(1));
        x.flag(0, 3);
        Checks.due("0 of 3 at 0.11 by 3: 16 (9) v1 flagged", () -> x.tell(0));
        for (int k = 2; k < 11; k++) {
            x.amend(1, 400);
        }
        Checks.due("1 of 0 at 359.11 by 0: 400 (9) v10 flagged unseen", () -> x.tell(1));
        for (int k = 2; k < 40; k++) {
            x.plant(1, 1, 12, 1, 0, 1);
        }
        Checks.due("39 of 1 at 1.0 by 1: 0 (1) v1 unseen", () -> x.tell(39));
        Checks.index(x, () -> x.tell(40));
        Checks.index(x, () -> x.tell(-1));
    }

    /** All is SOUND whatever is done. */
    private static void sound() {
        Checks.due(true, () -> new Moonmirror().isSound());
        for (Moonmirror x : new Moonmirror[] {BoundsTest.some(), BoundsTest.told(), BoundsTest.full()}) {
            Checks.due(true, () -> x.isSound());
            for (int station = 0; station < x.many(1); station++) {
                x.give(station, 1);
                for (int k = 0; k < 3; k++) {
                    x.shoot(station, 1, 3600 + 12 * k, 0, 60, k);
                }
                Checks.due(true, () -> x.isSound());
                x.close(station);
            }
            for (int point = 0; point < x.many(6); point++) {
                x.amend(point, point);
            }
            Checks.due(true, () -> x.isSound());
        }
    }

    /** Who knocks is REFUSED (counted): by each object alone, and seen nowhere else. */
    private static void knocks() {
        Moonmirror x = BoundsTest.told();
        long before = Looks.all(x);
        for (int k = 1; k <= 300; k++) {
            int due = k;
            Checks.due(due, () -> x.knock());
        }
        Checks.due(before, () -> Looks.all(x));
        Checks.due(1, () -> new Moonmirror().knock());
        // What is refused elsewhere is no knock.
        Checks.argument(x, () -> x.map(4));
        Checks.due(301, () -> x.knock());
    }

    /** d starts with 58276; for each of the following numbers v, d becomes d * 31 + v. */
    private static void digestInItsOrder() {
        List<Moonmirror> all = new ArrayList<>(List.of(new Moonmirror(), BoundsTest.some(), BoundsTest.told(), BoundsTest.full()));
        Moonmirror turning = BoundsTest.some();
        int[] values = {9, 9, -9, -9, 9, 50, 51};
        for (int k = 0; k < values.length; k++) {
            turning.plant(1, k % 3, 390 * k, k % 2, values[k], 1 + k);
        }
        turning.publish(1);
        turning.claim(0, 4, 1);
        turning.hint(9, 3);
        turning.flag(0, 2);
        turning.amend(1, 8);
        all.add(turning);
        Checks.due(true, () -> turning.turned(1, false) != turning.turned(1, true));
        Checks.due(true, () -> turning.broken(1) > 0 && turning.arc(1, -1) != 0 && turning.arcs(1) > 1);
        Checks.due(true, () -> turning.range(0, 0) != turning.range(0, 1) && turning.range(0, 1234) != turning.range(0, 1235));
        Checks.due(true, () -> turning.range(0, 1234) != turning.range(0, 1233));
        for (Moonmirror x : all) {
            Checks.due(digestOf(x), () -> x.digest());
            Checks.due(digestOf(x), () -> x.digest());
        }
    }

    private static long digestOf(Moonmirror x) {
        List<Long> v = new ArrayList<>();
        for (int what = 0; what <= 12; what++) {
            v.add((long) x.many(what));
        }
        for (int e = 0; e < x.many(0); e++) {
            v.addAll(List.of((long) x.range(e, 0), (long) x.range(e, 1234), x.square(e, 0), (long) x.bestUnknown(e)));
        }
        for (int s = 0; s < x.many(1); s++) {
            for (int what = 0; what <= 6; what++) {
                v.add((long) x.ofStation(s, what));
            }
            v.addAll(List.of((long) x.median(s), (long) x.turned(s, false), (long) x.broken(s), (long) x.arcs(s), (long) x.arc(s, -1)));
        }
        for (int s = 0; s < x.many(3); s++) {
            for (int what = 0; what <= 8; what++) {
                v.add((long) x.ofSession(s, what));
            }
        }
        for (int p = 0; p < x.many(6); p++) {
            for (int what = 0; what <= 10; what++) {
                v.add((long) x.ofPoint(p, what));
            }
        }
        for (int tile = 0; tile <= 15; tile++) {
            v.add((long) x.belief(tile));
        }
        v.add((long) x.belief(-1));
        for (int what = 0; what <= 3; what++) {
            v.add((long) x.map(what));
        }
        v.add(x.isSound() ? 1L : 0L);
        long d = 58276;
        for (long one : v) {
            d = d * 31 + one;
        }
        return d;
    }

    public static void main(String[] args) {
        tiles();
        belowSevenTimesTheSize();
        whatItWas();
        foundOnce();
        beliefs4096AtMost();
        nextTile();
        tenTies();
        firstTieOfTwo();
        greatestAmount();
        tied();
        differFromDepths();
        lines();
        sound();
        knocks();
        digestInItsOrder();
        Checks.end();
    }
}
