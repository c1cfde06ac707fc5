/** Promises 1 to 21: what there is, the sky, shots and sessions. */
public final class SkyTest {
    private static final int TRUE = -1;

    private SkyTest() {
    }

    /** A station and a mirror of the greatest chance (60), at the height and depth 0, and NIGHTS given. */
    private static Moonmirror plain() {
        Moonmirror x = new Moonmirror();
        x.ephemeris(0);
        x.station(0, 0, 0, 0, 9);
        x.mirror(0, 9, 0);
        x.give(0, 99);
        return x;
    }

    private static void promise1New() {
        Moonmirror x = new Moonmirror();
        for (int what = 0; what <= 12; what++) {
            int asked = what;
            Checks.due(0, () -> x.many(asked));
        }
        for (int tile = 0; tile <= 15; tile++) {
            int asked = tile;
            Checks.due(64, () -> x.belief(asked));
        }
        for (int what = 0; what <= 3; what++) {
            int asked = what;
            Checks.due(0, () -> x.map(asked));
        }
        Checks.due(true, () -> x.isSound());
        Checks.index(x, () -> x.median(0));
        Checks.index(x, () -> x.tell(0));
    }

    private static void promise2Ephemeris() {
        Moonmirror x = new Moonmirror();
        Checks.argument(x, () -> x.ephemeris(-1));
        Checks.argument(x, () -> x.ephemeris(10000));
        Checks.due(0, () -> x.ephemeris(0));
        Checks.due(1, () -> x.ephemeris(9999));
        Checks.due(2, () -> x.ephemeris(5));
        Checks.due(3, () -> x.ephemeris(7));
        Checks.due(0, () -> x.range(0, 3));
        Checks.due(9999, () -> x.range(1, 4319));
        Checks.state(x, () -> x.ephemeris(1));
        Checks.argument(x, () -> x.ephemeris(-1));
        Checks.due(4, () -> x.many(0));
    }

    private static void promise3Term() {
        Moonmirror x = plain();
        Checks.index(x, () -> x.term(1, 8, 5, 0));
        Checks.index(x, () -> x.term(-1, 0, 0, 0));
        Checks.argument(x, () -> x.term(0, 3, 5, 0));
        Checks.argument(x, () -> x.term(0, 401, 5, 0));
        Checks.argument(x, () -> x.term(0, 8, -51, 0));
        Checks.argument(x, () -> x.term(0, 8, 51, 0));
        Checks.argument(x, () -> x.term(0, 8, Integer.MIN_VALUE, 0));
        Checks.argument(x, () -> x.term(0, 8, 5, -1));
        Checks.argument(x, () -> x.term(0, 8, 5, 400));
        Checks.due(0, () -> x.term(0, 4, 50, 0));
        Checks.due(400, () -> x.range(0, 1));
        Checks.due(1, () -> x.term(0, 400, -50, 399));
        Checks.due(400 - 50 * 0, () -> x.range(0, 1));
        Checks.due(-50 * 8, () -> x.range(0, 102));
        Checks.due(2, () -> x.term(0, 8, 0, 1));
        Checks.due(3, () -> x.term(0, 8, 1, 2));
        Checks.due(4, () -> x.term(0, 8, 1, 2));
        Checks.state(x, () -> x.term(0, 8, 1, 2));
        Checks.argument(x, () -> x.term(0, 3, 1, 2));
        Checks.due(5, () -> x.many(12));
        x.ephemeris(1);
        Checks.due(0, () -> x.term(1, 8, 1, 2));
        x.plant(0, 0, 0, 1, 5, 5);
        Checks.state(x, () -> x.term(1, 8, 1, 2));
        x.flag(0, 0);
        Checks.state(x, () -> x.term(1, 8, 1, 2));
        Checks.index(x, () -> x.term(2, 8, 1, 2));
    }

    private static void promise4Station() {
        Moonmirror x = new Moonmirror();
        Checks.argument(x, () -> x.station(-1, 0, 0, 0, 1));
        Checks.argument(x, () -> x.station(41, 0, 0, 0, 1));
        Checks.argument(x, () -> x.station(0, -1, 0, 0, 1));
        Checks.argument(x, () -> x.station(0, 10, 0, 0, 1));
        Checks.argument(x, () -> x.station(0, 0, -10, 0, 1));
        Checks.argument(x, () -> x.station(0, 0, 10, 0, 1));
        Checks.argument(x, () -> x.station(0, 0, 0, -10, 1));
        Checks.argument(x, () -> x.station(0, 0, 0, 10, 1));
        Checks.argument(x, () -> x.station(0, 0, 0, 0, 0));
        Checks.argument(x, () -> x.station(0, 0, 0, 0, 10));
        Checks.due(0, () -> x.station(0, 0, -9, -9, 1));
        Checks.due(1, () -> x.station(40, 9, 9, 9, 9));
        Checks.due(2, () -> x.station(3, 4, 5, 6, 7));
        Checks.due(3, () -> x.station(3, 4, 5, 6, 7));
        Checks.state(x, () -> x.station(0, 0, 0, 0, 1));
        Checks.argument(x, () -> x.station(0, 0, 0, 0, 0));
        Checks.due(40, () -> x.ofStation(1, 5));
        Checks.due(4, () -> x.many(1));
    }

    private static void promise5Mirror() {
        Moonmirror x = new Moonmirror();
        Checks.argument(x, () -> x.mirror(-100, 1, 0));
        Checks.argument(x, () -> x.mirror(100, 1, 0));
        Checks.argument(x, () -> x.mirror(0, 0, 0));
        Checks.argument(x, () -> x.mirror(0, 10, 0));
        Checks.argument(x, () -> x.mirror(0, 1, -1));
        Checks.argument(x, () -> x.mirror(0, 1, 9));
        Checks.due(0, () -> x.mirror(-99, 1, 0));
        Checks.due(1, () -> x.mirror(99, 9, 8));
        Checks.due(2, () -> x.mirror(0, 9, 8));
        Checks.due(3, () -> x.mirror(0, 9, 8));
        Checks.due(4, () -> x.mirror(0, 9, 8));
        Checks.state(x, () -> x.mirror(0, 9, 8));
        Checks.argument(x, () -> x.mirror(0, 9, 9));
        Checks.due(5, () -> x.many(2));
    }

    private static void promise6Weather() {
        Moonmirror x = new Moonmirror();
        x.station(10, 0, 0, 0, 9);
        x.station(40, 0, 0, 0, 9);
        x.mirror(0, 9, 0);
        Checks.index(x, () -> x.weather(2, 0, 0, 0));
        Checks.index(x, () -> x.weather(-1, -1, 0, 0));
        Checks.argument(x, () -> x.weather(0, -1, 0, 0));
        Checks.argument(x, () -> x.weather(0, 360, 0, 0));
        Checks.argument(x, () -> x.weather(0, 0, -1, 0));
        Checks.argument(x, () -> x.weather(0, 0, 100, 0));
        Checks.argument(x, () -> x.weather(0, 0, 0, -1));
        Checks.argument(x, () -> x.weather(0, 0, 0, 21));
        Checks.due(20, () -> x.ofStation(0, 6));
        Checks.due(5, () -> x.ofStation(1, 6));
        // 99 * 40 / 100 is 39.
        Checks.due(39 + 20, () -> x.weather(0, 0, 99, 20));
        Checks.due(59, () -> x.ofStation(0, 6));
        Checks.due(5, () -> x.ofStation(1, 6));
        Checks.due(32 + 3, () -> x.weather(0, 10, 80, 3));
        Checks.due(57, () -> x.chance(0, 0, 10));
        Checks.due(40, () -> x.chance(0, 0, 9));
        Checks.due(4 + 1, () -> x.weather(0, 5, 10, 1));
        Checks.due(57, () -> x.chance(0, 0, 11));
        Checks.due(59, () -> x.chance(0, 0, 9));
        Checks.due(0 + 7, () -> x.weather(0, 5, 0, 7));
        Checks.due(53, () -> x.chance(0, 0, 9));
        Checks.due(57, () -> x.chance(0, 0, 359));
        Checks.due(9, () -> x.weather(1, 359, 99, 0));
        Checks.due(0, () -> x.weather(1, 1, 0, 0));
        Checks.due(5, () -> x.ofStation(1, 6));
        for (int k = 0; k < 5; k++) {
            x.weather(1, k, k, k);
        }
        Checks.due(2, () -> x.weather(1, 2, 9, 2));
        Checks.state(x, () -> x.weather(0, 0, 0, 0));
        Checks.state(x, () -> x.weather(1, 0, 0, 0));
        Checks.argument(x, () -> x.weather(1, 0, 100, 0));
    }

    private static void promise7Plane() {
        Moonmirror x = plain();
        x.station(0, 0, 0, 0, 9);
        Checks.index(x, () -> x.plane(2, 0, 0));
        Checks.index(x, () -> x.plane(-1, 5, 0));
        Checks.argument(x, () -> x.plane(0, -1, 0));
        Checks.argument(x, () -> x.plane(0, 0, 4320));
        Checks.argument(x, () -> x.plane(0, 4320, 4320));
        Checks.argument(x, () -> x.plane(0, 6, 5));
        Checks.due(1, () -> x.plane(0, 5, 7));
        Checks.due(0, () -> x.sky(0, 4));
        Checks.due(-2, () -> x.sky(0, 5));
        Checks.due(-2, () -> x.sky(0, 7));
        Checks.due(0, () -> x.sky(0, 8));
        Checks.due(-3, () -> x.sky(1, 6));
        Checks.due(2, () -> x.plane(1, 0, 4319));
        Checks.due(3, () -> x.plane(0, 9, 9));
        for (int k = 4; k <= 12; k++) {
            int due = k;
            Checks.due(due, () -> x.plane(1, 20, 30));
        }
        Checks.state(x, () -> x.plane(0, 0, 0));
        Checks.argument(x, () -> x.plane(0, 6, 5));
        Checks.due(2, () -> x.ofStation(0, 4));
        Checks.due(10, () -> x.ofStation(1, 4));
    }

    private static void promise8Leap() {
        Moonmirror x = plain();
        x.station(0, 0, 0, 3, 9);
        Checks.index(x, () -> x.leap(2, 0, 0));
        Checks.index(x, () -> x.leap(-1, -1, 0));
        Checks.argument(x, () -> x.leap(0, -1, 0));
        Checks.argument(x, () -> x.leap(0, 360, 0));
        Checks.argument(x, () -> x.leap(0, 0, -10));
        Checks.argument(x, () -> x.leap(0, 0, 10));
        Checks.due(3 + 9, () -> x.leap(1, 100, 9));
        Checks.due(3 - 2, () -> x.leap(1, 50, -2));
        Checks.due(3 - 2 + 9 + 1, () -> x.leap(1, 359, 1));
        Checks.due(3 - 2 + 9, () -> x.leap(1, 100, 0));
        Checks.due(-9, () -> x.leap(0, 0, -9));
        Checks.due(25 + 3, () -> x.light(1, 0, 49 * 12 + 11, TRUE));
        Checks.due(25 + 1, () -> x.light(1, 0, 50 * 12, TRUE));
        Checks.due(25 + 10, () -> x.light(1, 0, 100 * 12, TRUE));
        Checks.due(25 - 9, () -> x.light(0, 0, 0, TRUE));
        Checks.due(25, () -> x.light(0, 0, 0, 0));
        x.leap(0, 0, 1);
        x.leap(0, 0, 1);
        Checks.due(-6, () -> x.leap(0, 0, 1));
        Checks.state(x, () -> x.leap(0, 0, 1));
        Checks.state(x, () -> x.leap(1, 0, 1));
        Checks.argument(x, () -> x.leap(1, 0, 10));
    }

    private static void promise9Dust() {
        Moonmirror x = plain();
        x.mirror(0, 9, 1);
        Checks.index(x, () -> x.dust(2, 0));
        Checks.index(x, () -> x.dust(-1, -1));
        Checks.argument(x, () -> x.dust(0, -1));
        Checks.argument(x, () -> x.dust(0, 9));
        Checks.due(0, () -> x.dust(0, 0));
        Checks.due(3, () -> x.dust(1, 2));
        Checks.due(60, () -> x.chance(0, 0, 0));
        Checks.due(40, () -> x.chance(0, 1, 0));
        Checks.due(8, () -> x.dust(1, 6));
        Checks.due(8, () -> x.dust(0, 8));
        Checks.due(8, () -> x.dust(0, 8));
    }

    private static void promise10Close() {
        Moonmirror x = plain();
        Checks.index(x, () -> x.close(1));
        Checks.index(x, () -> x.close(-1));
        x.shoot(0, 0, 0, 0, 1, 0);
        x.shoot(0, 0, 1, 0, 1, 0);
        x.shoot(0, 0, 12, 0, 1, 0);
        Checks.due(97, () -> x.close(0));
        Checks.due(2, () -> x.ofStation(0, 0));
        Checks.due(2, () -> x.ofStation(0, 1));
        Checks.due(0, () -> x.close(0));
        Checks.due(0, () -> x.sky(0, 23));
        Checks.due(-3, () -> x.sky(0, 24));
        Checks.due(3, () -> x.give(0, 1));
        Checks.due(0, () -> x.sky(0, 24));
    }

    private static void promise11Give() {
        Moonmirror x = new Moonmirror();
        x.station(0, 0, 0, 0, 9);
        x.station(0, 0, 0, 0, 9);
        Checks.index(x, () -> x.give(2, 1));
        Checks.index(x, () -> x.give(-1, 0));
        Checks.argument(x, () -> x.give(0, 0));
        Checks.argument(x, () -> x.give(0, 100));
        Checks.due(1, () -> x.give(0, 1));
        Checks.due(100, () -> x.give(0, 99));
        Checks.due(0, () -> x.ofStation(1, 0));
        Checks.due(100, () -> x.ofStation(0, 0));
    }

    private static void promise12Wave() {
        Moonmirror x = new Moonmirror();
        Checks.argument(x, () -> x.wave(3, 0));
        Checks.argument(x, () -> x.wave(401, 0));
        Checks.argument(x, () -> x.wave(0, 0));
        Checks.argument(x, () -> x.wave(Integer.MIN_VALUE, 0));
        int[] of32 = {0, 1, 2, 3, 4, 5, 6, 7, 8, 7, 6, 5, 4, 3, 2, 1, 0, -1, -2, -3, -4, -5, -6, -7, -8,
            -7, -6, -5, -4, -3, -2, -1};
        for (int k = 0; k < 32; k++) {
            int at = k;
            Checks.due(of32[k], () -> x.wave(32, at));
            Checks.due(of32[k], () -> x.wave(32, at - 320));
            Checks.due(of32[k], () -> x.wave(32, at + 32));
        }
        // Of 12: y is 0 2 5 8 10 13 16 18 21 24 26 29.
        int[] of12 = {0, 2, 5, 8, 6, 3, 0, -2, -5, -8, -6, -3};
        for (int k = 0; k < 12; k++) {
            int at = k;
            Checks.due(of12[k], () -> x.wave(12, at));
        }
        Checks.due(8, () -> x.wave(4, 1));
        Checks.due(-8, () -> x.wave(4, -1));
        Checks.due(-1, () -> x.wave(400, 399));
        Checks.due(-1, () -> x.wave(400, -1));
        // 2147483647 is 47 more than a multiple of 400, and -2147483648 is 48 less than one.
        Checks.due(3, () -> x.wave(400, Integer.MAX_VALUE));
        Checks.due(-4, () -> x.wave(400, Integer.MIN_VALUE));
    }

    private static void promise13Range() {
        Moonmirror x = new Moonmirror();
        Checks.index(x, () -> x.range(0, 0));
        x.ephemeris(1000);
        x.term(0, 8, 5, 0);
        Checks.index(x, () -> x.range(-1, -1));
        Checks.argument(x, () -> x.range(0, -1));
        Checks.argument(x, () -> x.range(0, 4320));
        Checks.due(1000, () -> x.range(0, 0));
        Checks.due(1040, () -> x.range(0, 2));
        Checks.due(960, () -> x.range(0, 4318));
        Checks.due(980, () -> x.range(0, 4319));
        x.term(0, 12, -2, 3);
        Checks.due(1000 - 16, () -> x.range(0, 0));
        Checks.due(1040 + 2 * -3, () -> x.range(0, 2));
        x.ephemeris(7);
        Checks.due(7, () -> x.range(1, 2));
    }

    private static void promise14Light() {
        Moonmirror x = new Moonmirror();
        x.station(10, 8, 9, 2, 6);
        x.mirror(5, 4, 1);
        Checks.index(x, () -> x.light(0, 0, 0, TRUE));
        x.ephemeris(1000);
        x.ephemeris(500);
        Checks.index(x, () -> x.light(1, 0, 0, 0));
        Checks.index(x, () -> x.light(-1, 0, 0, 0));
        Checks.index(x, () -> x.light(0, 1, 0, 0));
        Checks.index(x, () -> x.light(0, -1, 0, 0));
        Checks.index(x, () -> x.light(0, 0, 0, 2));
        Checks.index(x, () -> x.light(0, 0, -1, -2));
        Checks.argument(x, () -> x.light(0, 0, -1, 0));
        Checks.argument(x, () -> x.light(0, 0, 4320, TRUE));
        Checks.due(2 * (1000 + 5 - 10) + 20, () -> x.light(0, 0, 0, 0));
        Checks.due(2 * (500 + 5 - 10) + 20, () -> x.light(0, 0, 4319, 1));
        Checks.due(2 * (1000 + 5 - 10) + 20 + 2, () -> x.light(0, 0, 0, TRUE));
        // The slot 3: the tide is 8; the night 10: the drift is 3.
        Checks.due(2 * (1000 + 5 - 21) + 22, () -> x.light(0, 0, 123, TRUE));
        // The slot 9: the tide is -8; the night 359: the drift is 107.
        Checks.due(2 * (1000 + 5 - 10 + 8 - 107) + 22, () -> x.light(0, 0, 359 * 12 + 9, TRUE));
        Moonmirror y = plain();
        y.station(0, 3, -1, 0, 1);
        // 3 * -2 / 8 is 0, 3 * -5 / 8 is -1; -1 * 29 / 30 is 0, -1 * 59 / 30 is -1.
        Checks.due(25, () -> y.light(1, 0, 29 * 12 + 7, TRUE));
        Checks.due(25 + 2, () -> y.light(1, 0, 29 * 12 + 8, TRUE));
        Checks.due(25 + 4, () -> y.light(1, 0, 59 * 12 + 8, TRUE));
    }

    private static void promise15OfStation() {
        Moonmirror x = plain();
        x.station(7, 9, 9, 9, 1);
        Checks.index(x, () -> x.ofStation(2, 0));
        Checks.index(x, () -> x.ofStation(-1, 9));
        Checks.argument(x, () -> x.ofStation(0, -1));
        Checks.argument(x, () -> x.ofStation(0, 7));
        x.shoot(0, 0, 0, 0, 1, 0);
        x.shoot(0, 0, 3, 0, 1, 0);
        x.shoot(0, 0, 12, 0, 1, 0);
        x.shoot(0, 0, 13 * 12, 0, 1, 0);
        x.plant(0, 0, 0, 0, 1, 1);
        x.plant(0, 0, 0, 0, 1, 1);
        x.plant(1, 0, 0, 0, 1, 1);
        x.flag(0, 0);
        x.plane(0, 1, 1);
        Checks.due(99, () -> x.ofStation(0, 0));
        Checks.due(2, () -> x.ofStation(0, 1));
        Checks.due(3, () -> x.ofStation(0, 2));
        Checks.due(2, () -> x.ofStation(0, 3));
        Checks.due(1, () -> x.ofStation(0, 4));
        Checks.due(0, () -> x.ofStation(0, 5));
        Checks.due(25, () -> x.ofStation(0, 6));
        Checks.due(0, () -> x.ofStation(1, 0));
        Checks.due(0, () -> x.ofStation(1, 1));
        Checks.due(0, () -> x.ofStation(1, 2));
        Checks.due(1, () -> x.ofStation(1, 3));
        Checks.due(0, () -> x.ofStation(1, 4));
        Checks.due(7, () -> x.ofStation(1, 5));
        Checks.due(21, () -> x.ofStation(1, 6));
    }

    private static void promise16Sky() {
        Moonmirror x = new Moonmirror();
        x.station(0, 0, 0, 0, 9);
        Checks.index(x, () -> x.sky(1, 0));
        Checks.index(x, () -> x.sky(-1, -1));
        Checks.argument(x, () -> x.sky(0, -1));
        Checks.argument(x, () -> x.sky(0, 4320));
        Checks.due(-3, () -> x.sky(0, 0));
        x.give(0, 1);
        Checks.due(0, () -> x.sky(0, 13 * 12 - 1));
        Checks.due(-1, () -> x.sky(0, 13 * 12));
        Checks.due(-1, () -> x.sky(0, 14 * 12 + 3));
        Checks.due(0, () -> x.sky(0, 14 * 12 + 4));
        Checks.due(0, () -> x.sky(0, 14 * 12 + 7));
        Checks.due(-1, () -> x.sky(0, 14 * 12 + 8));
        Checks.due(-1, () -> x.sky(0, 16 * 12 - 1));
        Checks.due(0, () -> x.sky(0, 16 * 12));
        Checks.due(-1, () -> x.sky(0, (29 * 11 + 14) * 12 + 5));
        x.plane(0, 14 * 12 + 3, 14 * 12 + 4);
        Checks.due(-1, () -> x.sky(0, 14 * 12 + 3));
        Checks.due(-2, () -> x.sky(0, 14 * 12 + 4));
        x.close(0);
        Checks.due(-2, () -> x.sky(0, 14 * 12 + 4));
        Checks.due(-3, () -> x.sky(0, 14 * 12 + 5));
    }

    private static void promise17Plan() {
        Moonmirror x = plain();
        x.station(0, 4, 0, 0, 9);
        Checks.index(x, () -> x.plan(2, 0));
        Checks.index(x, () -> x.plan(-1, -1));
        Checks.argument(x, () -> x.plan(0, -1));
        Checks.argument(x, () -> x.plan(0, 4320));
        Checks.due(0, () -> x.plan(0, 0));
        Checks.due(1, () -> x.plan(0, 1));
        Checks.due(16 * 12, () -> x.plan(0, 15 * 12));
        // 4 * WAVE / 8 is 0 in the slots 0 and 6 only.
        Checks.due(0, () -> x.plan(1, 0));
        Checks.due(6, () -> x.plan(1, 1));
        Checks.due(12, () -> x.plan(1, 7));
        // The full moon, but for the slot 6 of the eclipse.
        Checks.due(14 * 12 + 6, () -> x.plan(1, 13 * 12));
        x.plane(1, 5, 20);
        Checks.due(24, () -> x.plan(1, 1));
        Checks.due(5, () -> x.plan(0, 5));
        Checks.due(4319, () -> x.plan(0, 4319));
        Checks.due(-1, () -> x.plan(1, 4315));
        Checks.due(4314, () -> x.plan(1, 4314));
        x.plane(0, 100, 4319);
        Checks.due(99, () -> x.plan(0, 99));
        Checks.due(-1, () -> x.plan(0, 100));
    }

    private static void promise18Eclipse() {
        Moonmirror x = plain();
        x.station(0, 4, 0, 0, 9);
        Checks.index(x, () -> x.eclipse(2, 0));
        Checks.index(x, () -> x.eclipse(-1, -1));
        Checks.argument(x, () -> x.eclipse(0, -1));
        Checks.argument(x, () -> x.eclipse(0, 4320));
        Checks.due(172, () -> x.eclipse(0, 0));
        Checks.due(173, () -> x.eclipse(1, 173));
        Checks.due(175, () -> x.eclipse(1, 175));
        Checks.due(191 * 12 + 4, () -> x.eclipse(1, 176));
        Checks.due(191 * 12 + 7, () -> x.eclipse(1, 191 * 12 + 7));
        Checks.due(-1, () -> x.eclipse(1, 191 * 12 + 8));
        x.plane(0, 0, 173);
        Checks.due(174, () -> x.eclipse(0, 0));
        Checks.due(172, () -> x.eclipse(1, 0));
    }

    private static void promise19Chance() {
        Moonmirror x = plain();
        x.station(0, 0, 0, 0, 1);
        x.mirror(0, 7, 2);
        Checks.index(x, () -> x.chance(2, 0, 0));
        Checks.index(x, () -> x.chance(-1, 0, 0));
        Checks.index(x, () -> x.chance(0, 2, 0));
        Checks.index(x, () -> x.chance(0, -1, -1));
        Checks.argument(x, () -> x.chance(0, 0, -1));
        Checks.argument(x, () -> x.chance(0, 0, 360));
        Checks.due(60, () -> x.chance(0, 0, 0));
        Checks.due(36, () -> x.chance(0, 1, 0));
        Checks.due(4, () -> x.chance(1, 1, 0));
        x.weather(1, 100, 0, 3);
        x.weather(1, 200, 0, 20);
        Checks.due(4, () -> x.chance(1, 1, 99));
        Checks.due(1, () -> x.chance(1, 1, 100));
        Checks.due(0, () -> x.chance(1, 1, 200));
        Checks.due(36, () -> x.chance(0, 1, 359));
    }

    private static void promise20Shoot() {
        Moonmirror x = plain();
        Checks.index(x, () -> x.shoot(1, 0, 0, 0, 1, 0));
        Checks.index(x, () -> x.shoot(-1, 0, 0, 0, 1, 0));
        Checks.index(x, () -> x.shoot(0, 1, 0, 0, 1, 0));
        Checks.index(x, () -> x.shoot(0, -1, 0, 0, 1, 0));
        Checks.index(x, () -> x.shoot(0, 0, 0, 1, 1, 0));
        Checks.index(x, () -> x.shoot(0, 0, -1, -1, 1, 0));
        Checks.argument(x, () -> x.shoot(0, 0, -1, 0, 1, 0));
        Checks.argument(x, () -> x.shoot(0, 0, 4320, 0, 1, 0));
        Checks.argument(x, () -> x.shoot(0, 0, 0, 0, 0, 0));
        Checks.argument(x, () -> x.shoot(0, 0, 0, 0, 61, 0));
        Checks.argument(x, () -> x.shoot(0, 0, 0, 0, 1, -1));
        Checks.argument(x, () -> x.shoot(0, 0, 0, 0, 1, 100));
        // The row of 0: 13 95, 69 12, 64 71, 74 60: each first one modulo 64 is below 60.
        Checks.due(4, () -> x.shoot(0, 0, 0, 0, 4, 0));
        Checks.due(2, () -> x.ofSession(0, 38));
        Checks.due(1, () -> x.ofSession(0, 39));
        Checks.due(1, () -> x.ofSession(0, 40));
        // The row of 5: 61 is not below 60, and 85 modulo 3 is not 0.
        Checks.due(0, () -> x.shoot(0, 0, 12, 0, 1, 5));
        Checks.due(2, () -> x.ofStation(0, 1));
        Checks.due(18, () -> x.shoot(0, 0, 12, 0, 20, 7));
        Checks.due(2, () -> x.ofStation(0, 1));
        Checks.due(-1, () -> x.shoot(0, 0, 13 * 12, 0, 20, 7));
        x.plane(0, 0, 5);
        Checks.due(-2, () -> x.shoot(0, 0, 5, 0, 20, 7));
        x.close(0);
        Checks.due(-3, () -> x.shoot(0, 0, 24, 0, 20, 7));
        Checks.due(3, () -> x.many(3));
        Checks.due(3, () -> x.many(4));
        Checks.due(3, () -> x.many(5));
    }

    private static void promise20Lost() {
        Moonmirror x = plain();
        x.mirror(0, 9, 8);
        x.station(0, 0, 0, 9, 1);
        x.give(1, 9);
        // A chance of 0, the row of 0: 13, 95, 69 -> 12 (bin -8 without the aim), ... as the words say.
        Checks.due(0, () -> x.chance(1, 1, 0));
        Checks.due(5, () -> x.shoot(1, 1, 0, 0, 10, 0));
        for (int bin : new int[] {-20, 3, 6, 7, 17}) {
            Checks.due(1, () -> x.ofSession(0, bin + 40));
        }
        Checks.due(6, () -> x.ofSession(0, 5));
        Checks.due(2, () -> x.ofSession(0, 6));
        // An aim of 30 beyond the last bin: grains are lost, dark ones are not.
        x.station(0, 0, 0, 9, 9);
        x.give(2, 9);
        x.leap(2, 0, 9);
        x.leap(2, 0, 9);
        x.leap(2, 0, 3);
        Checks.due(2, () -> x.shoot(2, 0, 0, 0, 60, 0));
        Checks.due(1, () -> x.ofSession(1, 20));
        Checks.due(1, () -> x.ofSession(1, 57));
        // An aim of 20: the last bin is met, and what is beyond it is not.
        x.leap(2, 12, -9);
        x.leap(2, 12, -1);
        Checks.due(5, () -> x.shoot(2, 0, 144, 0, 5, 0));
        Checks.due(2, () -> x.ofSession(2, 60));
        Checks.due(19, () -> x.ofSession(2, 5));
        Checks.due(5, () -> x.ofSession(2, 6));
        // With an aim of 0 again, and rain from the night 5 on, the chance is 40: the row of 5 is 61, 85, and none.
        x.weather(0, 5, 50, 20);
        Checks.due(0, () -> x.shoot(0, 0, 5 * 12 + 11, 0, 1, 5));
        // The row of 3: 106 modulo 64 is 42, below 60, and 89 modulo 5 is 4: the bin 2; with 40 it is 89 modulo 3.
        Checks.due(1, () -> x.shoot(0, 0, 5 * 12 - 1, 0, 1, 3));
        Checks.due(0, () -> x.shoot(0, 0, 5 * 12, 0, 1, 3));
        Checks.due(2, () -> x.ofSession(4, 5) + x.ofSession(4, 6));
        // By another ephemeris the aim is twice what it is wrong by.
        x.ephemeris(2);
        x.shoot(0, 0, 0, 1, 4, 0);
        Checks.due(2, () -> x.ofSession(6, 40 - 2 - 4));
        Checks.due(-5, () -> x.ofSession(6, 5));
    }

    private static void promise21OfSession() {
        Moonmirror x = plain();
        Checks.index(x, () -> x.ofSession(0, 0));
        x.station(0, 0, 0, 0, 9);
        x.mirror(0, 9, 0);
        x.ephemeris(0);
        x.give(1, 9);
        x.shoot(1, 1, 17, 1, 20, 7);
        Checks.index(x, () -> x.ofSession(1, 0));
        Checks.index(x, () -> x.ofSession(-1, 9));
        for (int what : new int[] {-1, 9, 19, 61}) {
            Checks.argument(x, () -> x.ofSession(0, what));
        }
        int[] due = {1, 1, 17, 1, 18, -1, 14, 1, -1};
        for (int k = 0; k < due.length; k++) {
            int what = k;
            Checks.due(due[k], () -> x.ofSession(0, what));
        }
        int[] bins = {0, 7, 4, 3, 3, 1, 0};
        for (int k = 0; k < bins.length; k++) {
            int what = 37 + k;
            Checks.due(bins[k], () -> x.ofSession(0, what));
        }
        Checks.due(0, () -> x.ofSession(0, 20));
        Checks.due(0, () -> x.ofSession(0, 60));
        Checks.due(0, () -> x.publish(0));
        Checks.due(0, () -> x.ofSession(0, 8));
        for (int k = 0; k < 7; k++) {
            x.shoot(0, 0, 12 * k, 0, 1 + k, 5);
        }
        Checks.due(17, () -> x.ofSession(0, 2));
        Checks.due(8, () -> x.many(3));
        x.shoot(0, 0, 100, 0, 1, 5);
        Checks.due(0, () -> x.ofSession(0, 2));
        Checks.due(100, () -> x.ofSession(7, 2));
        Checks.due(-1, () -> x.ofSession(0, 8));
        Checks.due(8, () -> x.many(3));
        Checks.due(9, () -> x.many(4));
        // Nothing is counted: the bin 0, and no return.
        Checks.due(0, () -> x.ofSession(0, 4));
        Checks.due(0, () -> x.ofSession(0, 5));
        Checks.due(0, () -> x.ofSession(0, 6));
        Checks.due(0, () -> x.ofSession(0, 7));
    }

    public static void main(String[] args) {
        promise1New();
        promise2Ephemeris();
        promise3Term();
        promise4Station();
        promise5Mirror();
        promise6Weather();
        promise7Plane();
        promise8Leap();
        promise9Dust();
        promise10Close();
        promise11Give();
        promise12Wave();
        promise13Range();
        promise14Light();
        promise15OfStation();
        promise16Sky();
        promise17Plan();
        promise18Eclipse();
        promise19Chance();
        promise20Shoot();
        promise20Lost();
        promise21OfSession();
        Checks.end();
    }
}
