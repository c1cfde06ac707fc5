/** Promises 34 to 40: fits and claims. */
public final class FitsTest {
    private static final int NONE = -1;
    private static final int STATION_0 = 1;
    private static final int STATION_1 = 1 << 1;
    private static final int MIRROR_0 = 1 << 4;
    private static final int MIRROR_1 = 1 << 5;
    private static final int TERM_0 = 1 << 9;
    private static final int TERM_1 = 1 << 10;
    private static final int DRIFT = 1 << 14;

    private FitsTest() {
    }

    /** Two stations, two mirrors, an ephemeris with a term that is 0 8 0 -8 at the times 0 1 2 3. */
    private static Moonmirror plain() {
        Moonmirror x = new Moonmirror();
        x.ephemeris(100);
        x.term(0, 4, 10, 0);
        x.station(0, 0, 0, 0, 1);
        x.station(0, 0, 0, 0, 1);
        x.mirror(0, 1, 0);
        x.mirror(7, 1, 0);
        return x;
    }

    private static Moonmirror withThree() {
        Moonmirror x = plain();
        x.plant(0, 0, 0, 0, 16, 1);
        x.plant(1, 0, 1, 0, 32, 3);
        x.plant(0, 1, 2, 0, -16, 1);
        return x;
    }

    private static void promise34Fit() {
        Moonmirror x = withThree();
        Checks.index(x, () -> x.fit(1, 1, NONE, 0));
        Checks.index(x, () -> x.fit(-1, 0, NONE, 9));
        Checks.index(x, () -> x.fit(0, 1, 2, 0));
        Checks.index(x, () -> x.fit(0, 0, -2, 0));
        for (int set : new int[] {0, -1, 1 << 15, 1 << 31, 1 << 2, 1 << 3, 1 << 6, 1 << 8, 1 << 10, 1 << 13,
            STATION_0 | STATION_1 | MIRROR_0 | MIRROR_1, STATION_0 | 1 << 15, DRIFT | 1 << 31}) {
            Checks.argument(x, () -> x.fit(0, set, NONE, 0));
        }
        Checks.argument(x, () -> x.fit(0, STATION_0, NONE, -1));
        Checks.argument(x, () -> x.fit(0, STATION_0, NONE, 5));
        Checks.argument(x, () -> x.fit(0, STATION_0, NONE, 1));
        Checks.argument(x, () -> x.fit(0, STATION_0 | STATION_1, NONE, 2));
        // The station 0: 16 - 16 over 2.
        Checks.due(0, () -> x.fit(0, STATION_0, NONE, 0));
        Checks.due(128, () -> x.fit(0, STATION_1, NONE, 0));
        // The mirror 0: N is 4 + 3 * 4, B is 2 * 16 + 3 * 2 * 32.
        Checks.due(224 * 4 / 16, () -> x.fit(0, MIRROR_0, NONE, 0));
        Checks.due(32, () -> x.fit(0, MIRROR_0, 1, 0));
        Checks.due(-32, () -> x.fit(0, MIRROR_1, NONE, 0));
        // The term: N is 3 * 16 * 16, B is 3 * 16 * 32.
        Checks.due(8, () -> x.fit(0, TERM_0, NONE, 0));
        Checks.due(128, () -> x.fit(0, STATION_0 | STATION_1, NONE, 1));
        Checks.due(3, () -> x.fit(0, STATION_0, NONE, 3));
        Checks.due(2, () -> x.fit(0, STATION_0, 1, 3));
        Checks.due(1, () -> x.fit(0, STATION_0, NONE, 4));
        // Of the station that is left out, and of a night below 10, nothing can be told.
        Checks.due(0, () -> x.fit(0, STATION_1, 1, 4));
        Checks.due(0, () -> x.fit(0, STATION_1, 1, 0));
        Checks.due(2, () -> x.fit(0, STATION_1, 1, 3));
        Checks.due(0, () -> x.fit(0, DRIFT, NONE, 4));
        Checks.due(0, () -> x.fit(0, STATION_0 | DRIFT, NONE, 0));
        x.flag(1, 2);
        Checks.due(128, () -> x.fit(0, STATION_1, NONE, 0));
        x.flag(1, 3);
        Checks.due(0, () -> x.fit(0, STATION_1, NONE, 4));
        Checks.due(2, () -> x.fit(0, STATION_1, NONE, 3));
    }

    private static void promise34Three() {
        // Left by each: station 0 4, mirror 0 3 (twice), drift 2 a ten of nights; exact, so it is found again.
        Moonmirror x = plain();
        int[][] nights = {{0, 0, 0}, {0, 0, 100}, {0, 1, 55}, {1, 0, 359}, {1, 1, 20}, {1, 1, 19}};
        for (int[] k : nights) {
            int value = (k[0] == 0 ? 4 : 0) + (k[1] == 0 ? 2 * -3 : 0) + 2 * (k[2] / 10);
            x.plant(k[0], k[1], k[2] * 12 + 11, 0, value, 1 + k[2] % 9);
        }
        int set = STATION_0 | MIRROR_0 | DRIFT;
        Checks.due(4 * 4, () -> x.fit(0, set, NONE, 0));
        Checks.due(-3 * 4, () -> x.fit(0, set, NONE, 1));
        Checks.due(2 * 4, () -> x.fit(0, set, NONE, 2));
        Checks.due(6, () -> x.fit(0, set, NONE, 3));
        Checks.due(0L, () -> x.square(0, set));
        Checks.due(1, () -> x.fit(0, set, 1, 4));
        Checks.due(0, () -> x.fit(0, set, 0, 4));
        Checks.due(0, () -> x.left(0, set, 4));
        Checks.due(1, () -> x.fit(0, STATION_0 | STATION_1 | MIRROR_0, NONE, 4));
        // Without the mirror 1 each point is of a station and of the mirror 0: one too many.
        for (int point : new int[] {2, 4, 5}) {
            x.flag(point, 0);
        }
        Checks.due(0, () -> x.fit(0, STATION_0 | STATION_1 | MIRROR_0, NONE, 4));
        Checks.due(1, () -> x.fit(0, STATION_0 | STATION_1, NONE, 4));
    }

    private static void promise34Held() {
        // Nearly the same partials: the term is 2 * 8 and the drift 35 at all points but for one.
        Moonmirror x = new Moonmirror();
        x.ephemeris(0);
        x.term(0, 4, 0, 0);
        x.station(0, 0, 0, 0, 1);
        x.mirror(0, 1, 0);
        x.plant(0, 0, 359 * 12 + 1, 0, 400, 9);
        x.plant(0, 0, 339 * 12 + 1, 0, -400, 9);
        // 16 t + 35 d = 400 and 16 t + 33 d = -400: d is 400, t is -850; in 64ths 1600 and -3400.
        Checks.due(-3400, () -> x.fit(0, TERM_0 | DRIFT, NONE, 0));
        Checks.due(1600, () -> x.fit(0, TERM_0 | DRIFT, NONE, 1));
        Checks.due(0, () -> x.left(0, TERM_0 | DRIFT, 0));
        // s + 35 d = 400 and s + 34 d = -400: d is 800, s is -27600, which is held.
        Moonmirror y = new Moonmirror();
        y.ephemeris(0);
        y.station(0, 0, 0, 0, 1);
        y.mirror(0, 1, 0);
        y.plant(0, 0, 359 * 12, 0, 400, 9);
        y.plant(0, 0, 349 * 12, 0, -400, 9);
        Checks.due(-20000, () -> y.fit(0, STATION_0 | DRIFT, NONE, 0));
        Checks.due(3200, () -> y.fit(0, STATION_0 | DRIFT, NONE, 1));
        Checks.due(1600 + 20000 - 35 * 3200, () -> y.left(0, STATION_0 | DRIFT, 0));
        y.amend(0, -400);
        y.amend(1, 400);
        Checks.due(20000, () -> y.fit(0, STATION_0 | DRIFT, NONE, 0));
    }

    private static void promise35Left() {
        Moonmirror x = withThree();
        Checks.index(x, () -> x.left(1, STATION_0, 0));
        Checks.index(x, () -> x.left(-1, 0, 0));
        Checks.index(x, () -> x.left(0, STATION_0, 3));
        Checks.index(x, () -> x.left(0, 0, -1));
        Checks.argument(x, () -> x.left(0, 0, 0));
        Checks.argument(x, () -> x.left(0, 1 << 15, 0));
        Checks.argument(x, () -> x.left(0, TERM_1, 0));
        Checks.due(0, () -> x.left(0, STATION_1, 1));
        Checks.due(64, () -> x.left(0, STATION_1, 0));
        Checks.due(64 - 2 * 56, () -> x.left(0, MIRROR_0, 0));
        Checks.due(-64, () -> x.left(0, MIRROR_0, 2));
        Checks.due(-64 + 2 * 32, () -> x.left(0, MIRROR_0 | MIRROR_1, 2));
        Checks.due(128 - 8 * 16, () -> x.left(0, TERM_0, 1));
        // One that does not count, and one that names another ephemeris: the term is that of the fit.
        x.ephemeris(0);
        x.term(1, 4, 10, 1);
        x.plant(1, 0, 3, 1, 5, 1);
        x.plant(0, 0, 3, 0, 7, 1);
        x.flag(4, 0);
        Checks.due(20 + 8 * 16, () -> x.left(0, TERM_0, 3));
        Checks.due(28 + 8 * 16, () -> x.left(0, TERM_0, 4));
        Checks.due(20 - 128, () -> x.left(0, STATION_1, 3));
        // Nothing can be told: 4 * VALUE.
        Checks.due(20, () -> x.left(1, STATION_0, 3));
        Checks.due(-64, () -> x.left(1, STATION_0, 2));
    }

    private static void promise36Square() {
        Moonmirror x = withThree();
        Checks.index(x, () -> x.square(1, 0));
        Checks.index(x, () -> x.square(-1, -1));
        Checks.argument(x, () -> x.square(0, 1 << 15));
        Checks.argument(x, () -> x.square(0, 15));
        Checks.argument(x, () -> x.square(0, -1));
        Checks.argument(x, () -> x.square(0, 1 << 8));
        Checks.due(64L * 64 + 3 * 128 * 128 + 64 * 64, () -> x.square(0, 0));
        Checks.due(64L * 64 + 64 * 64, () -> x.square(0, STATION_1));
        Checks.due(48L * 48 + 3 * 16 * 16 + 64 * 64, () -> x.square(0, MIRROR_0));
        // Nothing can be told: as without an unknown.
        Checks.due(57344L, () -> x.square(0, DRIFT));
        x.flag(0, 0);
        Checks.due(64L * 64, () -> x.square(0, STATION_1));
        x.ephemeris(0);
        Checks.due(0L, () -> x.square(1, 0));
        // Beyond what an int holds: 40 points of 9 * 1600 * 1600.
        Moonmirror y = plain();
        for (int k = 0; k < 40; k++) {
            y.plant(0, 0, 0, 0, 400, 9);
        }
        Checks.due(921600000L, () -> y.square(0, 0));
        Checks.due(921600000L, () -> y.square(0, STATION_1));
        Checks.due(1600, () -> y.fit(0, STATION_0, NONE, 0));
        Moonmirror z = plain();
        z.plant(0, 0, 4319, 0, 400, 9);
        z.plant(0, 0, 4199, 0, -400, 9);
        // Held to -20000 and 3200 a night's ten: 1600 - 92000, and -1600 - 88800.
        Checks.due(9L * 90400 * 90400 + 9L * 90400 * 90400, () -> z.square(0, STATION_0 | DRIFT));
    }

    private static void promise37Claim() {
        Moonmirror x = withThree();
        Checks.index(x, () -> x.claim(1, 0, 1));
        Checks.index(x, () -> x.claim(-1, -1, 1));
        Checks.argument(x, () -> x.claim(0, -1, 1));
        Checks.argument(x, () -> x.claim(0, 15, 1));
        Checks.argument(x, () -> x.claim(0, 2, 1));
        Checks.argument(x, () -> x.claim(0, 6, 1));
        Checks.argument(x, () -> x.claim(0, 10, 1));
        Checks.argument(x, () -> x.claim(0, 4, 0));
        Checks.argument(x, () -> x.claim(0, 4, 4001));
        Checks.due(0, () -> x.many(9));
        // Without the station 1 the mirror 0 is 32, without the station 0 it is 64, with both 56.
        Checks.due(true, () -> x.claim(0, 4, 1));
        Checks.due(true, () -> x.claim(0, 4, 32));
        Checks.due(false, () -> x.claim(0, 4, 33));
        // Of one station alone.
        Checks.due(false, () -> x.claim(0, 1, 1));
        Checks.due(false, () -> x.claim(0, 9, 1));
        Checks.due(false, () -> x.claim(0, 14, 4000));
        Checks.due(6, () -> x.many(9));
        // A station without points does not stand in the way; one of another sign does.
        x.station(0, 0, 0, 0, 1);
        Checks.due(true, () -> x.claim(0, 4, 32));
        x.plant(2, 0, 0, 0, -8, 1);
        // Of 16, 32 (thrice) and -8: 41; without one of them 44, 8, 56.
        Checks.due(true, () -> x.claim(0, 4, 8));
        Checks.due(false, () -> x.claim(0, 4, 9));
        // Of 16, -9 (thrice) and -8: -7; without one of them -17, 8, -5.
        x.amend(1, -9);
        Checks.due(false, () -> x.claim(0, 4, 1));
        // Of -10, -9 (thrice) and -8: -18; without one of them -17, -18, -18.
        x.amend(0, -10);
        Checks.due(true, () -> x.claim(0, 4, 17));
        Checks.due(false, () -> x.claim(0, 4, 18));
        Checks.due(12, () -> x.many(9));
        // No points at all.
        Moonmirror y = plain();
        Checks.due(false, () -> y.claim(0, 4, 1));
        Checks.due(1, () -> y.many(9));
    }

    private static void promise38Worst() {
        Moonmirror x = withThree();
        Checks.index(x, () -> x.worst(1, STATION_0));
        Checks.index(x, () -> x.worst(-1, 0));
        Checks.argument(x, () -> x.worst(0, 0));
        Checks.argument(x, () -> x.worst(0, 1 << 3));
        // 64, 0, -64: of the same amount the first one.
        Checks.due(0, () -> x.worst(0, STATION_1));
        Checks.due(2, () -> x.worst(0, MIRROR_0));
        Checks.due(1, () -> x.worst(0, DRIFT));
        x.flag(1, 3);
        Checks.due(0, () -> x.worst(0, DRIFT));
        x.plant(0, 0, 0, 0, -17, 1);
        Checks.due(3, () -> x.worst(0, DRIFT));
        x.ephemeris(0);
        Checks.due(-1, () -> x.worst(1, STATION_0));
        x.plant(0, 0, 0, 1, 0, 1);
        Checks.due(4, () -> x.worst(1, STATION_0));
    }

    private static void promise39BestUnknown() {
        Moonmirror x = plain();
        Checks.index(x, () -> x.bestUnknown(1));
        Checks.index(x, () -> x.bestUnknown(-1));
        Checks.due(-1, () -> x.bestUnknown(0));
        Moonmirror y = withThree();
        Checks.due(4, () -> y.bestUnknown(0));
        y.flag(0, 0);
        // Now 1, 4 and 9 leave -16 alone.
        Checks.due(1, () -> y.bestUnknown(0));
        y.flag(1, 0);
        Checks.due(0, () -> y.bestUnknown(0));
        // Only the drift tells two nights apart.
        Moonmirror z = plain();
        z.plant(0, 0, 100 * 12, 0, 10, 1);
        z.plant(0, 0, 200 * 12, 0, 20, 1);
        Checks.due(14, () -> z.bestUnknown(0));
        // All VALUES 0: each leaves 0, of several the first one that can be told.
        Moonmirror none = plain();
        none.plant(1, 1, 1, 0, 0, 1);
        Checks.due(1, () -> none.bestUnknown(0));
        // The term of this ephemeris; there is none of the other one.
        Moonmirror term = plain();
        term.ephemeris(0);
        for (int e = 0; e < 2; e++) {
            term.plant(0, 0, 1, e, 16, 1);
            term.plant(0, 0, 3, e, -16, 1);
            term.plant(1, 1, 5, e, 16, 1);
        }
        Checks.due(9, () -> term.bestUnknown(0));
        Checks.due(1, () -> term.bestUnknown(1));
    }

    private static void promise40Improve() {
        Moonmirror x = plain();
        x.term(0, 8, 49, 5);
        Checks.index(x, () -> x.improve(1, TERM_0));
        Checks.index(x, () -> x.improve(-1, 0));
        Checks.argument(x, () -> x.improve(0, 0));
        Checks.argument(x, () -> x.improve(0, 1 << 11));
        Checks.state(x, () -> x.improve(0, TERM_0));
        x.plant(0, 0, 1, 0, 400, 1);
        x.plant(1, 0, 3, 0, -400, 1);
        // 100 in 64ths is 1 more.
        Checks.due(100, () -> x.fit(0, TERM_0, NONE, 0));
        Checks.due(1, () -> x.improve(0, TERM_0));
        Checks.due(2, () -> x.many(0));
        Checks.due(4, () -> x.many(12));
        Checks.due(100 + 11 * 8 + 49 * x.wave(8, 6), () -> x.range(1, 1));
        Checks.due(100 + 10 * 8 + 49 * x.wave(8, 6), () -> x.range(0, 1));
        // The WAVE of the term 1 is -8 at the time 1 and 0 at 3: -100 in 64ths is 1 less.
        Checks.due(-8, () -> x.wave(8, 6));
        Checks.due(-1600, () -> x.fit(0, STATION_1 | TERM_1, NONE, 0));
        Checks.due(-100, () -> x.fit(0, STATION_1 | TERM_1, NONE, 1));
        Checks.due(2, () -> x.improve(0, STATION_1 | TERM_1));
        Checks.due(100 + 10 * 8 - 48 * 8, () -> x.range(2, 1));
        Checks.due(3, () -> x.improve(0, STATION_0));
        Checks.due(100 + 10 * 8 - 49 * 8, () -> x.range(3, 1));
        Checks.state(x, () -> x.improve(0, STATION_0));
        Checks.argument(x, () -> x.improve(0, 0));
        // Terms of a new ephemeris may be told, as no point names it.
        Checks.due(2, () -> x.term(3, 4, 1, 1));
    }

    /** 63 in 64ths is nothing more, 64 is 1. */
    private static void promise40Rounded() {
        for (int sign = -1; sign <= 1; sign += 2) {
            Moonmirror x = new Moonmirror();
            x.ephemeris(0);
            x.term(0, 4, 0, 0);
            x.station(0, 0, 0, 0, 1);
            x.mirror(0, 1, 0);
            x.plant(0, 0, 1, 0, sign * 252, 1);
            Checks.due(sign * 63, () -> x.fit(0, TERM_0, NONE, 0));
            Checks.due(1, () -> x.improve(0, TERM_0));
            Checks.due(0, () -> x.range(1, 1));
            x.amend(0, sign * 256);
            Checks.due(2, () -> x.improve(0, TERM_0));
            Checks.due(sign * 8, () -> x.range(2, 1));
        }
    }

    private static void promise40Held() {
        for (int sign = -1; sign <= 1; sign += 2) {
            Moonmirror x = new Moonmirror();
            x.ephemeris(0);
            x.term(0, 4, sign * 50, 0);
            x.term(0, 12, sign * 49, 0);
            x.station(0, 0, 0, 0, 1);
            x.mirror(0, 1, 0);
            x.plant(0, 0, 1, 0, sign * 400, 1);
            Checks.due(sign * 100, () -> x.fit(0, TERM_0, NONE, 0));
            Checks.due(1, () -> x.improve(0, TERM_0));
            // Held to 50; the other term is as it was: 2 at the time 1.
            int due = sign * (50 * 8 + 49 * 2);
            Checks.due(due, () -> x.range(1, 1));
            // The second one alone: 4 * 400 / 4 is 400, and 49 and 6 are held to 50.
            Checks.due(sign * 400, () -> x.fit(0, TERM_1, NONE, 0));
            Checks.due(2, () -> x.improve(0, TERM_1));
            Checks.due(sign * (50 * 8 + 50 * 2), () -> x.range(2, 1));
        }
    }

    public static void main(String[] args) {
        promise34Fit();
        promise34Three();
        promise34Held();
        promise35Left();
        promise36Square();
        promise37Claim();
        promise38Worst();
        promise39BestUnknown();
        promise40Improve();
        promise40Rounded();
        promise40Held();
        Checks.end();
    }
}
