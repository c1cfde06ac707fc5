/** Sections 1 to 3 of the document and their promises, sentence by sentence: each that names an edge has its test. */
public final class SkyEdgesTest {
    private static final int TRUE = -1;

    private SkyEdgesTest() {
    }

    /** An ephemeris of 0, a station and a mirror at 0, of the greatest chance (60), with NIGHTS given. */
    private static Moonmirror plain() {
        Moonmirror x = new Moonmirror();
        x.ephemeris(0);
        x.station(0, 0, 0, 0, 9);
        x.mirror(0, 9, 0);
        x.give(0, 99);
        return x;
    }

    /** The same, but TRUE is by so much more than FORECAST. */
    private static Moonmirror aiming(int aim) {
        Moonmirror x = plain();
        int rest = aim;
        while (rest != 0) {
            int more = Math.max(-9, Math.min(9, rest));
            x.leap(0, 0, more);
            rest -= more;
        }
        return x;
    }

    /** The same, but no grain comes back: only DARK ones are counted. */
    private static Moonmirror dark() {
        Moonmirror x = plain();
        x.dust(0, 8);
        x.weather(0, 0, 50, 20);
        return x;
    }

    // ---- section 1

    /** What is divided is rounded toward 0. */
    private static void roundedTowardZero() {
        Moonmirror x = plain();
        x.station(0, 9, 0, 0, 1);
        x.station(0, 0, -9, 0, 1);
        x.station(0, 0, 9, 0, 1);
        // 9 * -2 / 8 is -2, 9 * 2 / 8 is 2; AIR is 25.
        Checks.due(25 + 2 * 2, () -> x.light(1, 0, 7, TRUE));
        Checks.due(25 - 2 * 2, () -> x.light(1, 0, 1, TRUE));
        // -27 / 30 is 0, -36 / 30 is -1, 27 / 30 is 0, 36 / 30 is 1.
        Checks.due(25, () -> x.light(2, 0, 3 * 12, TRUE));
        Checks.due(25 + 2, () -> x.light(2, 0, 4 * 12, TRUE));
        Checks.due(25, () -> x.light(3, 0, 3 * 12, TRUE));
        Checks.due(25 - 2, () -> x.light(3, 0, 4 * 12, TRUE));
        // 9 * 359 / 30 is 107.
        Checks.due(25 + 2 * 107, () -> x.light(2, 0, 4319, TRUE));
        Checks.due(25 - 2 * 107, () -> x.light(3, 0, 4319, TRUE));
    }

    /** x modulo p is 0 to p - 1, also of an x below 0. */
    private static void moduloBelowZero() {
        Moonmirror x = new Moonmirror();
        Checks.due(-8, () -> x.wave(4, -1));
        Checks.due(0, () -> x.wave(4, -2));
        Checks.due(8, () -> x.wave(4, -3));
        Checks.due(0, () -> x.wave(4, -4));
        Checks.due(-8, () -> x.wave(4, -5));
        // 4 of 5 is 25, 1 of 5 is 6.
        Checks.due(-7, () -> x.wave(5, -1));
        Checks.due(6, () -> x.wave(5, -4));
        Checks.due(0, () -> x.wave(5, -5));
        Checks.due(-1, () -> x.wave(400, -1));
        Checks.due(0, () -> x.wave(400, -399));
        Checks.due(0, () -> x.wave(400, -400));
        // Both are 2 modulo 5: 12.
        Checks.due(4, () -> x.wave(5, Integer.MIN_VALUE));
        Checks.due(4, () -> x.wave(5, Integer.MAX_VALUE));
    }

    /** A seed's ROW: 0 to 99; the first number is (31 * seed + 13) modulo 107, each later one by the one ahead. */
    private static void rowsOfSeeds() {
        Moonmirror x = plain();
        // 0: 13 and 95 (the BIN -2), 69 and 12 (0), 64 and 71 (-1); 99: 86 and 4 (2).
        Checks.due(1, () -> x.shoot(0, 0, 0, 0, 1, 0));
        Checks.due(1, () -> x.ofSession(0, 38));
        Checks.due(2, () -> x.shoot(0, 0, 0, 0, 2, 0));
        Checks.due(1, () -> x.ofSession(1, 40));
        Checks.due(3, () -> x.shoot(0, 0, 0, 0, 3, 0));
        Checks.due(1, () -> x.ofSession(2, 39));
        Checks.due(1, () -> x.shoot(0, 0, 0, 0, 1, 99));
        Checks.due(1, () -> x.ofSession(3, 42));
        Checks.argument(x, () -> x.shoot(0, 0, 0, 0, 1, -1));
        Checks.argument(x, () -> x.shoot(0, 0, 0, 0, 1, 100));
    }

    /** A TIME is 12 * NIGHT + SLOT, with NIGHT 0 to 359 and SLOT 0 to 11 (0 to 4319). */
    private static void timesAndNights() {
        Moonmirror x = plain();
        int[] times = {0, 11, 12, 4307, 4308, 4319};
        String[] told = {"0.0", "0.11", "1.0", "358.11", "359.0", "359.11"};
        for (int k = 0; k < times.length; k++) {
            int number = k;
            x.plant(0, 0, times[k], 0, 0, 1);
            Checks.due(number + " of 0 at " + told[k] + " by 0: 0 (1) v1 unseen", () -> x.tell(number));
        }
        Checks.due(0, () -> x.range(0, 4319));
        Checks.argument(x, () -> x.range(0, 4320));
        Checks.argument(x, () -> x.range(0, -1));
        Checks.due(60, () -> x.chance(0, 0, 359));
        Checks.argument(x, () -> x.chance(0, 0, 360));
        Checks.argument(x, () -> x.chance(0, 0, -1));
    }

    /** WAVE: y if that is below 8, 16 - y if below 24, otherwise y - 32 (-8 to 8). */
    private static void waveByItsPieces() {
        Moonmirror x = new Moonmirror();
        int[] at = {0, 7, 8, 9, 15, 16, 17, 23, 24, 25, 31, 32};
        int[] due = {0, 7, 8, 7, 1, 0, -1, -7, -8, -7, -1, 0};
        for (int k = 0; k < at.length; k++) {
            int place = k;
            Checks.due(due[k], () -> x.wave(32, at[place]));
        }
        // 12 of 400 is 0, 13 is 1; 99 is 7, 100 is 8; 299 is 23, 300 is 24.
        int[] far = {12, 13, 99, 100, 299, 300, 399};
        int[] of400 = {0, 1, 7, 8, -7, -8, -1};
        for (int k = 0; k < far.length; k++) {
            int place = k;
            Checks.due(of400[k], () -> x.wave(400, far[place]));
        }
    }

    /** A PERIOD (4 to 400). */
    private static void periods() {
        Moonmirror x = plain();
        int[] of4 = {0, 8, 0, -8};
        for (int k = 0; k < of4.length; k++) {
            int place = k;
            Checks.due(of4[k], () -> x.wave(4, place));
        }
        Checks.argument(x, () -> x.wave(3, 0));
        Checks.argument(x, () -> x.wave(401, 0));
        Checks.argument(x, () -> x.term(0, 3, 1, 0));
        Checks.argument(x, () -> x.term(0, 401, 1, 0));
        Checks.due(0, () -> x.term(0, 4, 1, 0));
        Checks.due(8, () -> x.range(0, 1));
        Checks.due(1, () -> x.term(0, 400, 1, 0));
        // The first one is 0 and 8 there, the second one 7 and 8.
        Checks.due(7, () -> x.range(0, 96));
        Checks.due(8, () -> x.range(0, 100));
        Checks.due(16, () -> x.range(0, 101));
    }

    /** EPHEMERIDES: at most 4, numbered from 0, each with a MEAN (0 to 9999). */
    private static void fourEphemerides() {
        Moonmirror x = new Moonmirror();
        int[] means = {0, 9999, 1, 9998};
        for (int k = 0; k < 4; k++) {
            int number = k;
            Checks.due(number, () -> x.ephemeris(means[number]));
            Checks.due(means[number], () -> x.range(number, 0));
            Checks.due(number + 1, () -> x.many(0));
            Checks.argument(x, () -> x.ephemeris(-1));
            Checks.argument(x, () -> x.ephemeris(10000));
        }
        Checks.state(x, () -> x.ephemeris(0));
        Checks.state(x, () -> x.ephemeris(9999));
        Checks.due(4, () -> x.many(0));
        Checks.due(9999, () -> x.range(1, 4319));
    }

    /** TERMS: at most 5, numbered from 0, of each EPHEMERIS. */
    private static void fiveTerms() {
        Moonmirror x = new Moonmirror();
        for (int e = 0; e < 4; e++) {
            x.ephemeris(0);
            int number = e;
            for (int t = 0; t < 5; t++) {
                int place = t;
                Checks.due(place, () -> x.term(number, 4, 1, 0));
                Checks.due(8 * (place + 1), () -> x.range(number, 1));
            }
            Checks.state(x, () -> x.term(number, 4, 1, 0));
            Checks.argument(x, () -> x.term(number, 4, 1, 400));
            Checks.due(5 * (number + 1), () -> x.many(12));
        }
        Checks.index(x, () -> x.term(4, 4, 1, 0));
    }

    /** No TERM is told for an EPHEMERIS that a POINT names, whether it counts or not; a SESSION is no POINT. */
    private static void termsOfOneThatIsNamed() {
        Moonmirror x = plain();
        x.ephemeris(0);
        x.shoot(0, 0, 0, 0, 4, 0);
        Checks.due(0, () -> x.term(0, 4, 1, 0));
        Checks.due(0, () -> x.publish(0));
        Checks.state(x, () -> x.term(0, 4, 1, 0));
        x.flag(0, 3);
        Checks.state(x, () -> x.term(0, 4, 1, 0));
        Checks.argument(x, () -> x.term(0, 4, 51, 0));
        Checks.due(0, () -> x.term(1, 4, 1, 0));
        x.plant(0, 0, 0, 1, 0, 1);
        Checks.state(x, () -> x.term(1, 4, 1, 0));
        Checks.due(2, () -> x.many(12));
    }

    /** An AMPLITUDE (-50 to 50) and a PHASE (0 to 399). */
    private static void amplitudesAndPhases() {
        Moonmirror x = plain();
        Checks.argument(x, () -> x.term(0, 4, -51, 0));
        Checks.argument(x, () -> x.term(0, 4, 51, 0));
        Checks.argument(x, () -> x.term(0, 4, 1, -1));
        Checks.argument(x, () -> x.term(0, 4, 1, 400));
        x.term(0, 4, 50, 0);
        Checks.due(400, () -> x.range(0, 1));
        Checks.due(-400, () -> x.range(0, 3));
        x.term(0, 4, -50, 0);
        Checks.due(0, () -> x.range(0, 1));
        // 399 of 400 is -1; a TIME more is 0; 13 more than that is 1.
        x.term(0, 400, 7, 399);
        Checks.due(-7, () -> x.range(0, 0));
        Checks.due(0, () -> x.range(0, 1));
        Checks.due(7, () -> x.range(0, 14));
        // 4319 and 399 is 318 modulo 400: 25.
        Checks.due(7 * -7, () -> x.range(0, 4319));
    }

    /** NATURE goes by the EPHEMERIS 0: TRUE by it, FORECAST by the one that is named. */
    private static void natureByTheFirst() {
        Moonmirror x = new Moonmirror();
        x.station(0, 0, 0, 0, 9);
        x.mirror(0, 9, 0);
        Checks.index(x, () -> x.light(0, 0, 0, TRUE));
        Checks.index(x, () -> x.light(0, 0, 0, 0));
        x.ephemeris(100);
        Checks.due(225, () -> x.light(0, 0, 0, TRUE));
        Checks.index(x, () -> x.light(0, 0, 0, 1));
        Checks.index(x, () -> x.light(0, 0, 0, -2));
        x.ephemeris(200);
        Checks.due(225, () -> x.light(0, 0, 0, TRUE));
        Checks.due(225, () -> x.light(0, 0, 0, 0));
        Checks.due(425, () -> x.light(0, 0, 0, 1));
    }

    /** STATIONS: at most 4, numbered from 0. */
    private static void fourStations() {
        Moonmirror x = new Moonmirror();
        int[][] ends = {{0, 0, -9, -9, 1}, {40, 9, 9, 9, 9}, {0, 9, -9, 9, 1}, {40, 0, 9, -9, 9}};
        for (int k = 0; k < 4; k++) {
            int number = k;
            Checks.index(x, () -> x.ofStation(number, 5));
            Checks.due(number, () -> x.station(ends[number][0], ends[number][1], ends[number][2], ends[number][3],
                    ends[number][4]));
            Checks.due(ends[number][0], () -> x.ofStation(number, 5));
            Checks.due(number + 1, () -> x.many(1));
            Checks.argument(x, () -> x.station(41, 0, 0, 0, 1));
            Checks.argument(x, () -> x.station(0, 10, 0, 0, 1));
            Checks.argument(x, () -> x.station(0, 0, 10, 0, 1));
            Checks.argument(x, () -> x.station(0, 0, 0, 10, 1));
            Checks.argument(x, () -> x.station(0, 0, 0, 0, 10));
        }
        Checks.state(x, () -> x.station(0, 0, 0, 0, 1));
        Checks.due(4, () -> x.many(1));
        x.ephemeris(0);
        x.mirror(0, 1, 0);
        // The SLOT 3 of the NIGHT 359: TIDE is 9 * 8 / 8, DRIFT 107; AIR is 25, of a HEIGHT of 40 it is 5.
        int time = 359 * 12 + 3;
        Checks.due(2 * 107 + 25 - 9, () -> x.light(0, 0, time, TRUE));
        Checks.due(-2 * (40 + 9 + 107) + 5 + 9, () -> x.light(1, 0, time, TRUE));
        Checks.due(-2 * (9 - 107) + 25 + 9, () -> x.light(2, 0, time, TRUE));
        Checks.due(-2 * (40 + 107) + 5 - 9, () -> x.light(3, 0, time, TRUE));
        Checks.due(-2 * 40 + 5, () -> x.light(1, 0, time, 0));
    }

    /** MIRRORS: at most 5, numbered from 0, each with a DEPTH (-99 to 99), a SIZE (1 to 9) and DUST (0 to 8). */
    private static void fiveMirrors() {
        Moonmirror x = plain();
        int[][] ends = {{0, 9, 0}, {-99, 1, 0}, {99, 9, 8}, {-99, 9, 8}, {99, 1, 0}};
        int[] chances = {60, 6, 6, 6, 6};
        for (int k = 1; k < 5; k++) {
            int number = k;
            Checks.index(x, () -> x.chance(0, number, 0));
            Checks.due(number, () -> x.mirror(ends[number][0], ends[number][1], ends[number][2]));
            Checks.due(number + 1, () -> x.many(2));
            Checks.argument(x, () -> x.mirror(100, 1, 0));
            Checks.argument(x, () -> x.mirror(-100, 1, 0));
            Checks.argument(x, () -> x.mirror(0, 0, 0));
            Checks.argument(x, () -> x.mirror(0, 10, 0));
            Checks.argument(x, () -> x.mirror(0, 1, -1));
            Checks.argument(x, () -> x.mirror(0, 1, 9));
        }
        for (int k = 0; k < 5; k++) {
            int number = k;
            Checks.due(2 * ends[number][0] + 25, () -> x.light(0, number, 0, 0));
            Checks.due(chances[number], () -> x.chance(0, number, 0));
        }
        Checks.state(x, () -> x.mirror(0, 1, 0));
        Checks.index(x, () -> x.chance(0, 5, 0));
        Checks.due(5, () -> x.many(2));
    }

    /** DUST comes to a MIRROR (8 at most), by 0 to 8. */
    private static void dustEightAtMost() {
        Moonmirror x = plain();
        x.mirror(0, 9, 8);
        x.mirror(0, 9, 0);
        Checks.argument(x, () -> x.dust(0, -1));
        Checks.argument(x, () -> x.dust(0, 9));
        Checks.due(0, () -> x.dust(0, 0));
        Checks.due(7, () -> x.dust(0, 7));
        Checks.due(8, () -> x.dust(0, 1));
        Checks.due(8, () -> x.dust(0, 1));
        Checks.due(8, () -> x.dust(0, 8));
        Checks.due(8, () -> x.dust(1, 0));
        Checks.due(8, () -> x.dust(1, 8));
        Checks.due(8, () -> x.dust(2, 8));
        Checks.due(6, () -> x.chance(0, 0, 0));
    }

    /** AIR: PRESSURE (0 to 99) * (50 - HEIGHT) / 100 and WET (0 to 20). */
    private static void airAtItsEnds() {
        Moonmirror x = plain();
        x.station(40, 0, 0, 0, 9);
        x.station(1, 0, 0, 0, 9);
        Checks.due(49 + 20, () -> x.weather(0, 0, 99, 20));
        Checks.due(9 + 20, () -> x.weather(1, 0, 99, 20));
        // 99 * 49 / 100 is 48.
        Checks.due(48, () -> x.weather(2, 0, 99, 0));
        Checks.due(0, () -> x.weather(0, 0, 0, 0));
        Checks.due(0, () -> x.weather(0, 0, 1, 0));
        Checks.due(1, () -> x.weather(0, 0, 2, 0));
        Checks.argument(x, () -> x.weather(0, 0, 100, 0));
        Checks.argument(x, () -> x.weather(0, 0, -1, 0));
        Checks.argument(x, () -> x.weather(0, 0, 0, 21));
        Checks.argument(x, () -> x.weather(0, 0, 0, -1));
    }

    /** The report with the greatest NIGHT that is not later holds; without one PRESSURE and WET are 50 and 0. */
    private static void reportsFromANightOn() {
        Moonmirror x = plain();
        x.station(0, 0, 0, 0, 9);
        Checks.due(25, () -> x.ofStation(0, 6));
        Checks.due(40 + 5, () -> x.weather(0, 100, 80, 5));
        Checks.due(25, () -> x.ofStation(0, 6));
        Checks.due(25, () -> x.light(0, 0, 100 * 12 - 1, 0));
        Checks.due(45, () -> x.light(0, 0, 100 * 12, 0));
        Checks.due(45, () -> x.light(0, 0, 4319, 0));
        Checks.due(25, () -> x.light(1, 0, 100 * 12, 0));
        Checks.due(60, () -> x.chance(0, 0, 99));
        Checks.due(55, () -> x.chance(0, 0, 100));
        // Told later, but of an earlier NIGHT.
        Checks.due(10 + 1, () -> x.weather(0, 99, 20, 1));
        Checks.due(25, () -> x.light(0, 0, 99 * 12 - 1, 0));
        Checks.due(11, () -> x.light(0, 0, 99 * 12, 0));
        Checks.due(11, () -> x.light(0, 0, 100 * 12 - 1, 0));
        Checks.due(45, () -> x.light(0, 0, 100 * 12, 0));
        Checks.due(0 + 20, () -> x.weather(0, 359, 0, 20));
        Checks.due(45, () -> x.light(0, 0, 359 * 12 - 1, 0));
        Checks.due(20, () -> x.light(0, 0, 359 * 12, 0));
        Checks.due(3, () -> x.weather(0, 0, 0, 3));
        Checks.due(3, () -> x.ofStation(0, 6));
    }

    /** Of several reports of one NIGHT the one that was told last holds. */
    private static void reportsOfOneNight() {
        Moonmirror x = plain();
        x.station(0, 0, 0, 0, 9);
        Checks.due(45, () -> x.weather(0, 10, 90, 0));
        Checks.due(5, () -> x.weather(0, 10, 10, 0));
        Checks.due(35, () -> x.weather(0, 10, 70, 0));
        Checks.due(20, () -> x.weather(1, 10, 40, 0));
        Checks.due(35, () -> x.light(0, 0, 120, 0));
        Checks.due(20, () -> x.light(1, 0, 120, 0));
        Checks.due(25, () -> x.light(0, 0, 119, 0));
        Checks.due(10, () -> x.weather(0, 0, 20, 0));
        Checks.due(35, () -> x.light(0, 0, 120, 0));
    }

    /** At most 12 such reports of all. */
    private static void twelveReports() {
        Moonmirror x = plain();
        x.station(0, 0, 0, 0, 9);
        for (int k = 0; k < 12; k++) {
            int number = k;
            Checks.due(number, () -> x.weather(number % 2, 5 + number / 2, 0, number));
        }
        Checks.state(x, () -> x.weather(0, 0, 0, 0));
        Checks.state(x, () -> x.weather(1, 359, 99, 20));
        Checks.argument(x, () -> x.weather(1, 360, 99, 20));
        Checks.index(x, () -> x.weather(2, 360, 99, 20));
        Checks.due(25, () -> x.light(0, 0, 59, 0));
        Checks.due(0, () -> x.light(0, 0, 60, 0));
        Checks.due(11, () -> x.light(1, 0, 4319, 0));
        Checks.due(10, () -> x.light(0, 0, 4319, 0));
    }

    /** All LEAPS of the STATION from that NIGHT or an earlier one on, each by -9 to 9. */
    private static void leapsFromANightOn() {
        Moonmirror x = plain();
        x.station(0, 0, 0, -9, 9);
        Checks.due(9, () -> x.leap(0, 100, 9));
        Checks.due(25, () -> x.light(0, 0, 100 * 12 - 1, TRUE));
        Checks.due(34, () -> x.light(0, 0, 100 * 12, TRUE));
        Checks.due(34, () -> x.light(0, 0, 4319, TRUE));
        Checks.due(25, () -> x.light(0, 0, 4319, 0));
        Checks.due(16, () -> x.light(1, 0, 4319, TRUE));
        Checks.due(-9 - 9, () -> x.leap(1, 0, -9));
        Checks.due(-9, () -> x.leap(0, 99, -9));
        Checks.due(0, () -> x.leap(0, 100, 0));
        Checks.due(3, () -> x.leap(0, 359, 3));
        Checks.due(25 + 3, () -> x.light(0, 0, 359 * 12, TRUE));
        Checks.due(25, () -> x.light(0, 0, 359 * 12 - 1, TRUE));
        Checks.argument(x, () -> x.leap(0, 0, 10));
        Checks.argument(x, () -> x.leap(0, 0, -10));
        Checks.argument(x, () -> x.leap(0, 360, 0));
        Checks.argument(x, () -> x.leap(0, -1, 0));
    }

    /** At most 8 LEAPS of all; by 0 is one, too. */
    private static void eightLeaps() {
        Moonmirror x = plain();
        x.station(0, 0, 0, 0, 9);
        int[] due = {0, 1, 2, 4, 6, 9, 12, 16};
        for (int k = 0; k < 8; k++) {
            int number = k;
            Checks.due(due[number], () -> x.leap(number % 2, 359 - number % 2, number));
        }
        Checks.due(25 + 12, () -> x.light(0, 0, 4319, TRUE));
        Checks.state(x, () -> x.leap(0, 0, 0));
        Checks.state(x, () -> x.leap(1, 359, 9));
        Checks.argument(x, () -> x.leap(1, 359, 10));
        Checks.index(x, () -> x.leap(2, 359, 10));
        Checks.due(25 + 16, () -> x.light(1, 0, 4319, TRUE));
    }

    /** It is FULL with an AGE (NIGHT modulo 29) of 13 to 15. */
    private static void fullByItsAge() {
        Moonmirror x = plain();
        for (int moon = 0; moon < 12; moon++) {
            int night = 29 * moon;
            Checks.due(0, () -> x.sky(0, 12 * night));
            Checks.due(0, () -> x.sky(0, 12 * (night + 12) + 11));
            Checks.due(-1, () -> x.sky(0, 12 * (night + 13)));
            Checks.due(-1, () -> x.sky(0, 12 * (night + 14)));
            Checks.due(-1, () -> x.sky(0, 12 * (night + 15) + 11));
            Checks.due(0, () -> x.sky(0, 12 * (night + 16)));
        }
        Checks.due(0, () -> x.sky(0, 4319));
    }

    /** But for an ECLIPSE (of any AGE): NIGHT modulo 177 is 14, and SLOT 4 to 7. */
    private static void butForAnEclipse() {
        Moonmirror x = plain();
        for (int slot = 0; slot < 12; slot++) {
            int at = slot;
            Checks.due(at >= 4 && at <= 7 ? 0 : -1, () -> x.sky(0, 14 * 12 + at));
            Checks.due(-1, () -> x.sky(0, 13 * 12 + at));
            Checks.due(-1, () -> x.sky(0, 15 * 12 + at));
            Checks.due(0, () -> x.sky(0, 191 * 12 + at));
        }
        // The NIGHT 191 has an AGE of 17, and its ECLIPSE is one all the same.
        Checks.due(191 * 12 + 4, () -> x.eclipse(0, 14 * 12 + 8));
        Checks.due(191 * 12 + 4, () -> x.eclipse(0, 191 * 12 + 3));
        Checks.due(191 * 12 + 5, () -> x.eclipse(0, 191 * 12 + 5));
        Checks.due(191 * 12 + 7, () -> x.eclipse(0, 191 * 12 + 7));
        Checks.due(-1, () -> x.eclipse(0, 191 * 12 + 8));
        Checks.due(-1, () -> x.eclipse(0, 4319));
        Checks.due(14 * 12 + 4, () -> x.eclipse(0, 0));
        Checks.due(14 * 12 + 4, () -> x.eclipse(0, 14 * 12 + 4));
        Checks.due(14 * 12 + 7, () -> x.eclipse(0, 14 * 12 + 7));
    }

    // ---- section 2

    /** PLANES: at most 12, each over a STATION, from a TIME to a TIME (both in it). */
    private static void planesFromTo() {
        Moonmirror x = plain();
        x.station(0, 0, 0, 0, 9);
        x.give(1, 9);
        Checks.due(1, () -> x.plane(0, 5, 7));
        int[] due = {0, -2, -2, -2, 0};
        for (int k = 0; k < due.length; k++) {
            int time = 4 + k;
            Checks.due(due[k], () -> x.sky(0, time));
            Checks.due(0, () -> x.sky(1, time));
        }
        Checks.due(2, () -> x.plane(0, 9, 9));
        Checks.due(-2, () -> x.sky(0, 9));
        Checks.due(0, () -> x.sky(0, 10));
        Checks.due(3, () -> x.plane(0, 0, 0));
        Checks.due(-2, () -> x.sky(0, 0));
        Checks.due(4, () -> x.plane(0, 4319, 4319));
        Checks.due(-2, () -> x.sky(0, 4319));
        Checks.due(0, () -> x.sky(0, 4318));
        Checks.due(5, () -> x.plane(1, 0, 4319));
        Checks.due(-2, () -> x.sky(1, 0));
        Checks.due(-2, () -> x.sky(1, 4319));
        Checks.due(4, () -> x.ofStation(0, 4));
        Checks.due(1, () -> x.ofStation(1, 4));
    }

    private static void twelvePlanes() {
        Moonmirror x = plain();
        x.station(0, 0, 0, 0, 9);
        for (int k = 1; k <= 12; k++) {
            int number = k;
            Checks.due(number, () -> x.plane(number % 2, 10 * number, 10 * number));
        }
        Checks.due(-2, () -> x.sky(0, 120));
        Checks.state(x, () -> x.plane(0, 0, 0));
        Checks.state(x, () -> x.plane(1, 0, 4319));
        Checks.argument(x, () -> x.plane(1, 1, 0));
        Checks.index(x, () -> x.plane(2, 1, 0));
        Checks.due(0, () -> x.sky(0, 0));
        Checks.due(6, () -> x.ofStation(0, 4));
        Checks.due(6, () -> x.ofStation(1, 4));
    }

    /** NIGHTS are given to STATIONS (0 at first), 1 to 99 at once. */
    private static void nightsThatAreGiven() {
        Moonmirror x = new Moonmirror();
        x.ephemeris(0);
        x.station(0, 0, 0, 0, 9);
        x.mirror(0, 9, 0);
        Checks.due(0, () -> x.ofStation(0, 0));
        Checks.due(-3, () -> x.sky(0, 0));
        Checks.due(-3, () -> x.shoot(0, 0, 0, 0, 1, 0));
        Checks.argument(x, () -> x.give(0, 0));
        Checks.argument(x, () -> x.give(0, 100));
        Checks.due(1, () -> x.give(0, 1));
        Checks.due(0, () -> x.sky(0, 0));
        Checks.due(100, () -> x.give(0, 99));
        Checks.due(100, () -> x.ofStation(0, 0));
    }

    /** -3, if the NIGHT is not USED by it yet, and it has USED as many as were given. */
    private static void nightsThatAreUsed() {
        Moonmirror x = new Moonmirror();
        x.ephemeris(0);
        x.station(0, 0, 0, 0, 9);
        x.station(0, 0, 0, 0, 9);
        x.mirror(0, 9, 0);
        x.give(0, 2);
        x.give(1, 1);
        Checks.due(1, () -> x.shoot(0, 0, 0, 0, 1, 0));
        Checks.due(1, () -> x.ofStation(0, 1));
        Checks.due(1, () -> x.shoot(0, 0, 11, 0, 1, 0));
        Checks.due(1, () -> x.ofStation(0, 1));
        Checks.due(0, () -> x.ofStation(1, 1));
        Checks.due(0, () -> x.sky(0, 12));
        Checks.due(1, () -> x.shoot(0, 0, 4319, 0, 1, 0));
        Checks.due(2, () -> x.ofStation(0, 1));
        Checks.due(-3, () -> x.sky(0, 12));
        Checks.due(-3, () -> x.shoot(0, 0, 12, 0, 1, 0));
        Checks.due(2, () -> x.ofStation(0, 1));
        // The NIGHTS that are USED stay open, those of the other STATION are its own.
        Checks.due(0, () -> x.sky(0, 0));
        Checks.due(0, () -> x.sky(0, 4308));
        Checks.due(-3, () -> x.sky(0, 4307));
        Checks.due(0, () -> x.sky(1, 12));
        Checks.due(3, () -> x.give(0, 1));
        Checks.due(0, () -> x.sky(0, 12));
        // That nothing is counted is a shot all the same.
        Checks.due(0, () -> x.shoot(1, 0, 24, 0, 1, 5));
        Checks.due(1, () -> x.ofStation(1, 1));
        Checks.due(-3, () -> x.sky(1, 12));
    }

    /** NIGHTS given are as many as it USED; how many NIGHTS are lost by that. */
    private static void closed() {
        Moonmirror x = plain();
        Checks.due(99, () -> x.close(0));
        Checks.due(0, () -> x.ofStation(0, 0));
        Checks.due(0, () -> x.close(0));
        Checks.due(-3, () -> x.sky(0, 0));
        x.give(0, 1);
        x.shoot(0, 0, 0, 0, 1, 0);
        Checks.due(0, () -> x.close(0));
        Checks.due(1, () -> x.ofStation(0, 0));
        Checks.due(0, () -> x.sky(0, 11));
        Checks.due(-3, () -> x.sky(0, 12));
        x.give(0, 5);
        Checks.due(5, () -> x.close(0));
        Checks.due(1, () -> x.ofStation(0, 0));
        Checks.due(true, () -> x.isSound());
    }

    /** It does not come about (the first that applies): -1, -2, -3; it is no SESSION then, and USES no NIGHT. */
    private static void firstThatApplies() {
        Moonmirror x = new Moonmirror();
        x.ephemeris(0);
        x.station(0, 0, 0, 0, 9);
        x.mirror(0, 9, 0);
        x.plane(0, 13 * 12 - 1, 13 * 12);
        Checks.due(-1, () -> x.sky(0, 13 * 12));
        Checks.due(-1, () -> x.shoot(0, 0, 13 * 12, 0, 1, 0));
        Checks.due(-2, () -> x.sky(0, 13 * 12 - 1));
        Checks.due(-2, () -> x.shoot(0, 0, 13 * 12 - 1, 0, 1, 0));
        Checks.due(-3, () -> x.sky(0, 13 * 12 - 2));
        Checks.due(-3, () -> x.shoot(0, 0, 13 * 12 - 2, 0, 1, 0));
        x.give(0, 1);
        Checks.due(-1, () -> x.shoot(0, 0, 13 * 12, 0, 1, 0));
        Checks.due(-2, () -> x.shoot(0, 0, 13 * 12 - 1, 0, 1, 0));
        Checks.due(0, () -> x.ofStation(0, 1));
        Checks.due(0, () -> x.ofStation(0, 2));
        Checks.due(0, () -> x.many(3));
        Checks.due(0, () -> x.many(4));
        Checks.due(5, () -> x.many(5));
        Checks.due(1, () -> x.shoot(0, 0, 13 * 12 - 2, 0, 1, 0));
        Checks.due(1, () -> x.many(4));
        Checks.due(5, () -> x.many(5));
        Checks.due(1, () -> x.ofStation(0, 2));
    }

    /** PULSES (1 to 60). */
    private static void pulses() {
        Moonmirror x = plain();
        Checks.argument(x, () -> x.shoot(0, 0, 0, 0, 0, 0));
        Checks.argument(x, () -> x.shoot(0, 0, 0, 0, 61, 0));
        Checks.due(1, () -> x.shoot(0, 0, 0, 0, 1, 0));
        Checks.due(60, () -> x.shoot(0, 0, 0, 0, 60, 0));
        Checks.due(60, () -> x.ofSession(1, 4));
        Checks.due(1, () -> x.ofSession(1, 5));
        Checks.due(37, () -> x.ofSession(1, 6));
        Checks.due(true, () -> x.isSound());
        // A SHOT that does not come about is looked at, too.
        Checks.argument(x, () -> x.shoot(0, 0, 13 * 12, 0, 61, 0));
    }

    /** CHANCE is POWER * SIZE * (9 - DUST) / 12, less WET (0 at least). */
    private static void chanceZeroAtLeast() {
        Moonmirror x = plain();
        x.station(0, 0, 0, 0, 8);
        x.station(0, 0, 0, 0, 1);
        x.mirror(0, 6, 4);
        x.mirror(0, 1, 8);
        Checks.due(60, () -> x.chance(0, 0, 0));
        Checks.due(0, () -> x.chance(2, 2, 0));
        // 8 * 6 * 5 / 12 is 20; 1 * 6 * 5 / 12 is 2; 9 / 12 is 0.
        Checks.due(20, () -> x.chance(1, 1, 0));
        Checks.due(2, () -> x.chance(2, 1, 0));
        Checks.due(0, () -> x.chance(0, 2, 0));
        x.weather(1, 10, 0, 19);
        x.weather(1, 20, 0, 20);
        x.weather(2, 10, 0, 3);
        Checks.due(20, () -> x.chance(1, 1, 9));
        Checks.due(1, () -> x.chance(1, 1, 10));
        Checks.due(0, () -> x.chance(1, 1, 20));
        Checks.due(0, () -> x.chance(2, 1, 10));
        Checks.due(0, () -> x.chance(2, 2, 10));
        Checks.due(2, () -> x.chance(2, 1, 9));
    }

    /** With DRAWN modulo 64 below CHANCE a grain comes back. */
    private static void belowChance() {
        Moonmirror x = plain();
        // The ROW of 36 is 59, 23 (the BIN 1), that of 74 is 60, 54 (a DARK one), 82 (the BIN -20).
        Checks.due(1, () -> x.shoot(0, 0, 0, 0, 1, 36));
        Checks.due(1, () -> x.ofSession(0, 41));
        Checks.due(1, () -> x.shoot(0, 0, 0, 0, 1, 74));
        Checks.due(1, () -> x.ofSession(1, 20));
        // With a CHANCE of 59: 23 modulo 3 is not 0.
        x.weather(0, 1, 50, 1);
        Checks.due(59, () -> x.chance(0, 0, 1));
        Checks.due(0, () -> x.shoot(0, 0, 12, 0, 1, 36));
        // With a CHANCE of 0 not even 0 is below it: the ROW of 41 is 0, 13.
        Moonmirror none = dark();
        Checks.due(0, () -> none.chance(0, 0, 0));
        Checks.due(0, () -> none.shoot(0, 0, 0, 0, 1, 41));
        // With a CHANCE of 1 it is: 13 modulo 5 is 3, the BIN 1.
        Moonmirror least = plain();
        least.station(0, 0, 0, 0, 1);
        least.mirror(0, 6, 7);
        least.give(1, 1);
        Checks.due(1, () -> least.chance(1, 1, 0));
        Checks.due(1, () -> least.shoot(1, 1, 0, 0, 1, 41));
        Checks.due(1, () -> least.ofSession(0, 41));
        // 1 is not below it; 13 after it: the ROW of 79 is 1, 44.
        Checks.due(0, () -> least.shoot(1, 1, 0, 0, 1, 79));
    }

    /** In the BIN TRUE less FORECAST, and DRAWN modulo 5, less 2: each of the five. */
    private static void binsOfGrains() {
        Moonmirror x = plain();
        int[] seeds = {0, 2, 4, 1, 3};
        int[] found = {-1, 0, 0, 0, 1};
        for (int k = 0; k < 5; k++) {
            int number = k;
            Checks.due(1, () -> x.shoot(0, 0, 0, 0, 1, seeds[number]));
            Checks.due(1, () -> x.ofSession(number, 38 + number));
            Checks.due(found[number], () -> x.ofSession(number, 5));
            Checks.due(1, () -> x.ofSession(number, 6));
        }
    }

    /** A DARK one in the BIN DRAWN modulo 41, less 20: the first and the last one. */
    private static void binsOfDarkOnes() {
        Moonmirror x = dark();
        // The ROW of 16 is 81, 63, 40; that of 74 is 60, 54, 82.
        Checks.due(1, () -> x.shoot(0, 0, 0, 0, 1, 16));
        Checks.due(1, () -> x.ofSession(0, 60));
        Checks.due(19, () -> x.ofSession(0, 5));
        Checks.due(1, () -> x.shoot(0, 0, 0, 0, 1, 74));
        Checks.due(1, () -> x.ofSession(1, 20));
        Checks.due(-19, () -> x.ofSession(1, 5));
    }

    /** BINS are -20 to 20: what falls beside is lost. */
    private static void beside() {
        // The ROW of 13 gives the BIN of the aim and 2 four times, that of 30 the aim less 2.
        for (int sign = -1; sign <= 1; sign += 2) {
            int up = sign;
            int seed = sign > 0 ? 30 : 13;
            Moonmirror last = aiming(sign * 22);
            Checks.due(sign * 22, () -> last.light(0, 0, 0, TRUE) - last.light(0, 0, 0, 0));
            Checks.due(4, () -> last.shoot(0, 0, 0, 0, 4, seed));
            Checks.due(4, () -> last.ofSession(0, 40 + up * 20));
            Checks.due(up * 19, () -> last.ofSession(0, 5));
            Checks.due(4, () -> last.ofSession(0, 6));
            Checks.due(1, () -> last.ofSession(0, 7));
            Checks.due(0, () -> last.publish(0));
            Checks.due(up * 320, () -> last.ofPoint(0, 4));
            Moonmirror lost = aiming(sign * 23);
            Checks.due(0, () -> lost.shoot(0, 0, 0, 0, 4, 0));
            Checks.due(0, () -> lost.ofSession(0, 4));
            Checks.due(0, () -> lost.ofSession(0, 5));
            Checks.due(0, () -> lost.ofSession(0, 6));
            Checks.due(0, () -> lost.ofSession(0, 7));
            Checks.due(-1, () -> lost.publish(0));
            for (int bin = 20; bin <= 60; bin++) {
                int what = bin;
                Checks.due(0, () -> lost.ofSession(0, what));
            }
        }
        // Some are lost: the ROW of 58 gives the aim and 2, then the aim less 2 four times.
        Moonmirror some = aiming(22);
        Checks.due(4, () -> some.shoot(0, 0, 0, 0, 5, 58));
        Checks.due(4, () -> some.ofSession(0, 4));
    }

    /** The latest 8 are kept, numbered from 0, the oldest one. */
    private static void latestEight() {
        Moonmirror x = plain();
        Checks.index(x, () -> x.ofSession(0, 0));
        for (int k = 0; k < 8; k++) {
            int number = k;
            x.shoot(0, 0, number, 0, 4, 0);
            Checks.due(number + 1, () -> x.many(3));
            Checks.due(number, () -> x.ofSession(number, 2));
            Checks.index(x, () -> x.ofSession(number + 1, 2));
        }
        Checks.due(0, () -> x.publish(0));
        Checks.due(1, () -> x.publish(7));
        x.shoot(0, 0, 8, 0, 4, 0);
        Checks.due(8, () -> x.many(3));
        Checks.due(9, () -> x.many(4));
        Checks.due(1, () -> x.ofSession(0, 2));
        Checks.due(8, () -> x.ofSession(7, 2));
        Checks.index(x, () -> x.ofSession(8, 2));
        // A SESSION keeps its POINT under its new number, and so does the POINT that comes from one that is not kept.
        Checks.due(-1, () -> x.ofSession(0, 8));
        Checks.due(1, () -> x.ofSession(6, 8));
        Checks.state(x, () -> x.publish(6));
        Checks.due(1, () -> x.ofPoint(0, 8));
        Checks.due(2, () -> x.publish(7));
        // One that does not come about takes no place.
        x.shoot(0, 0, 13 * 12, 0, 4, 0);
        Checks.due(1, () -> x.ofSession(0, 2));
    }

    /** Of several the one that is least by its amount, then the smaller one. */
    private static void foundOfSeveral() {
        Moonmirror x = dark();
        // One in -11 and one in 11: -12 to -10 and 10 to 12.
        Checks.due(2, () -> x.shoot(0, 0, 0, 0, 2, 40));
        Checks.due(1, () -> x.ofSession(0, 29));
        Checks.due(1, () -> x.ofSession(0, 51));
        Checks.due(-10, () -> x.ofSession(0, 5));
        // One in -11 and one in -6; one in 4 and one in 17; one in -17 and one in -12.
        Checks.due(2, () -> x.shoot(0, 0, 0, 0, 4, 22));
        Checks.due(-5, () -> x.ofSession(1, 5));
        Checks.due(2, () -> x.shoot(0, 0, 0, 0, 4, 26));
        Checks.due(3, () -> x.ofSession(2, 5));
        Checks.due(2, () -> x.shoot(0, 0, 0, 0, 4, 9));
        Checks.due(-11, () -> x.ofSession(3, 5));
        // Nothing at all: 0, as all of them are 0.
        Checks.due(0, () -> x.shoot(0, 0, 0, 0, 1, 41));
        Checks.due(0, () -> x.ofSession(4, 5));
        Checks.due(0, () -> x.ofSession(4, 6));
    }

    /** It is a RETURN, if the COUNT is 4 or more. */
    private static void returnsOfFour() {
        Moonmirror x = plain();
        Checks.due(3, () -> x.shoot(0, 0, 0, 0, 3, 0));
        Checks.due(3, () -> x.ofSession(0, 6));
        Checks.due(0, () -> x.ofSession(0, 7));
        Checks.due(-1, () -> x.publish(0));
        Checks.due(-1, () -> x.ofSession(0, 8));
        Checks.due(4, () -> x.shoot(0, 0, 0, 0, 4, 0));
        Checks.due(4, () -> x.ofSession(1, 6));
        Checks.due(1, () -> x.ofSession(1, 7));
        Checks.due(0, () -> x.publish(1));
        Checks.due(0, () -> x.ofSession(1, 8));
    }

    /** And 4 times the COUNT are all counts of the SESSION, or more. */
    private static void returnsOfAQuarter() {
        Moonmirror x = dark();
        int[][] shots = {{46, 37, 16, 4, 1}, {48, 37, 17, 4, 0}, {58, 65, 20, 5, 1}};
        for (int k = 0; k < shots.length; k++) {
            int number = k;
            Checks.due(shots[k][2], () -> x.shoot(0, 0, 0, 0, shots[number][0], shots[number][1]));
            Checks.due(shots[k][2], () -> x.ofSession(number, 4));
            Checks.due(shots[k][3], () -> x.ofSession(number, 6));
            Checks.due(shots[k][4], () -> x.ofSession(number, 7));
        }
        Checks.due(0, () -> x.publish(0));
        Checks.due(-1, () -> x.publish(1));
        Checks.due(1, () -> x.publish(2));
        // -16 and -14 beside -15: 3 in -16, 2 in -15; 16 * -78 / 5 is -249.
        Checks.due(-15, () -> x.ofSession(2, 5));
        Checks.due(-249, () -> x.ofPoint(1, 4));
    }

    // ---- section 3

    /** The first CLEAR TIME that is that or later, at which TIDE * WAVE(12, TIME) / 8 is 0; NONE without one. */
    private static void plans() {
        Moonmirror x = plain();
        x.station(0, 1, 0, 0, 9);
        x.station(0, 9, 0, 0, 9);
        x.station(0, 3, 0, 0, 9);
        // Without NIGHTS that are given, too: a PLAN asks for a CLEAR TIME alone.
        int[] due = {0, 1, 2, 4, 4, 5, 6, 7, 8, 10, 10, 11};
        for (int slot = 0; slot < 12; slot++) {
            int at = slot;
            Checks.due(at, () -> x.plan(0, at));
            // 1 * 8 / 8 in the SLOTS 3 and 9 alone.
            Checks.due(due[at], () -> x.plan(1, at));
            // 9 * WAVE / 8 is 0 in the SLOTS 0 and 6 alone.
            Checks.due(at == 0 ? 0 : at <= 6 ? 6 : 12, () -> x.plan(2, at));
        }
        // 3 * WAVE / 8 is 0 in the SLOTS 0, 1, 6 and 7 alone.
        Checks.due(1, () -> x.plan(3, 1));
        Checks.due(6, () -> x.plan(3, 2));
        Checks.due(6, () -> x.plan(3, 5));
        Checks.due(7, () -> x.plan(3, 7));
        Checks.due(12, () -> x.plan(3, 8));
        Checks.due(16 * 12, () -> x.plan(0, 14 * 12 + 8));
        Checks.due(14 * 12 + 4, () -> x.plan(0, 13 * 12));
        Checks.due(14 * 12 + 6, () -> x.plan(2, 13 * 12));
        Checks.due(16 * 12, () -> x.plan(2, 14 * 12 + 7));
        Checks.due(4319, () -> x.plan(0, 4319));
        Checks.due(4314, () -> x.plan(2, 4309));
        Checks.due(-1, () -> x.plan(2, 4315));
        Checks.due(-1, () -> x.plan(2, 4319));
        x.plane(0, 4319, 4319);
        Checks.due(4318, () -> x.plan(0, 4318));
        Checks.due(-1, () -> x.plan(0, 4319));
        x.plane(1, 0, 4319);
        Checks.due(-1, () -> x.plan(1, 0));
    }

    /** The first TIME of an ECLIPSE that is CLEAR for it: without a PLANE over it. */
    private static void eclipses() {
        Moonmirror x = plain();
        x.station(0, 9, 0, 0, 9);
        x.plane(0, 14 * 12 + 4, 14 * 12 + 4);
        Checks.due(14 * 12 + 5, () -> x.eclipse(0, 0));
        Checks.due(14 * 12 + 4, () -> x.eclipse(1, 0));
        x.plane(0, 14 * 12 + 6, 191 * 12 + 4);
        Checks.due(14 * 12 + 5, () -> x.eclipse(0, 0));
        Checks.due(191 * 12 + 5, () -> x.eclipse(0, 14 * 12 + 6));
        x.plane(0, 0, 191 * 12 + 6);
        Checks.due(191 * 12 + 7, () -> x.eclipse(0, 0));
        x.plane(0, 191 * 12 + 7, 191 * 12 + 7);
        Checks.due(-1, () -> x.eclipse(0, 0));
        Checks.due(14 * 12 + 4, () -> x.eclipse(1, 0));
    }

    public static void main(String[] args) {
        roundedTowardZero();
        moduloBelowZero();
        rowsOfSeeds();
        timesAndNights();
        waveByItsPieces();
        periods();
        fourEphemerides();
        fiveTerms();
        termsOfOneThatIsNamed();
        amplitudesAndPhases();
        natureByTheFirst();
        fourStations();
        fiveMirrors();
        dustEightAtMost();
        airAtItsEnds();
        reportsFromANightOn();
        reportsOfOneNight();
        twelveReports();
        leapsFromANightOn();
        eightLeaps();
        fullByItsAge();
        butForAnEclipse();
        planesFromTo();
        twelvePlanes();
        nightsThatAreGiven();
        nightsThatAreUsed();
        closed();
        firstThatApplies();
        pulses();
        chanceZeroAtLeast();
        belowChance();
        binsOfGrains();
        binsOfDarkOnes();
        beside();
        latestEight();
        foundOfSeveral();
        returnsOfFour();
        returnsOfAQuarter();
        plans();
        eclipses();
        Checks.end();
    }
}
