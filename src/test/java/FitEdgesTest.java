/** Section 5 of the document and its promises, sentence by sentence: each that names an edge has its test. */
public final class FitEdgesTest {
    private static final int NONE = -1;
    private static final int STATION_0 = 1;
    private static final int STATION_1 = 1 << 1;
    private static final int MIRROR_0 = 1 << 4;
    private static final int MIRROR_1 = 1 << 5;
    private static final int TERM_0 = 1 << 9;
    private static final int TERM_1 = 1 << 10;
    private static final int DRIFT = 1 << 14;

    private FitEdgesTest() {
    }

    /** Two stations, two mirrors, an ephemeris with a term that is 0 8 0 -8 at the times 0 1 2 3. */
    private static Moonmirror plain() {
        Moonmirror x = new Moonmirror();
        x.ephemeris(100);
        x.term(0, 4, 10, 0);
        x.station(0, 0, 0, 0, 1);
        x.station(0, 0, 0, 0, 1);
        x.mirror(0, 1, 0);
        x.mirror(7, 1, 0);
        return x;
    }

    /** 0 to 3 the place of a STATION; 4 to 8 DEPTH of a MIRROR; 9 to 13 a TERM: as many as there are. */
    private static void unknownsThatThereAre() {
        Moonmirror x = new Moonmirror();
        x.ephemeris(0);
        // Without anything else there is 14 alone.
        for (int unknown = 0; unknown <= 15; unknown++) {
            int asked = unknown;
            if (unknown == 14) {
                Checks.due(0, () -> x.fit(0, 1 << asked, NONE, 4));
                Checks.due(false, () -> x.claim(0, asked, 1));
            } else {
                Checks.argument(x, () -> x.fit(0, 1 << asked, NONE, 4));
                Checks.argument(x, () -> x.claim(0, asked, 1));
            }
        }
        for (int k = 0; k < 4; k++) {
            int station = k;
            Checks.argument(x, () -> x.square(0, 1 << station));
            x.station(0, 0, 0, 0, 1);
            Checks.due(0L, () -> x.square(0, 1 << station));
        }
        for (int k = 4; k < 9; k++) {
            int mirror = k;
            Checks.argument(x, () -> x.worst(0, 1 << mirror));
            x.mirror(0, 1, 0);
            Checks.due(NONE, () -> x.worst(0, 1 << mirror));
        }
        for (int k = 9; k < 14; k++) {
            int term = k;
            Checks.argument(x, () -> x.fit(0, 1 << term, NONE, 3));
            x.term(0, 4, 1, 0);
            Checks.due(0, () -> x.fit(0, 1 << term, NONE, 3));
        }
        // TERMS of the EPHEMERIS of the FIT.
        x.ephemeris(0);
        Checks.argument(x, () -> x.fit(1, TERM_0, NONE, 3));
        Checks.argument(x, () -> x.claim(1, 13, 1));
        Checks.due(false, () -> x.claim(0, 13, 1));
    }

    /** The set of UNKNOWNS: 1 to 3 of 0 to 14. */
    private static void oneToThree() {
        Moonmirror x = BoundsTest.full();
        x.flag(0, 2);
        for (int set : new int[] {1, 1 << 14, 3, 1 << 14 | 1 << 13, 7, 1 << 12 | 1 << 13 | 1 << 14, 1 | 1 << 8 | 1 << 14}) {
            Checks.due(40, () -> x.fit(0, set, NONE, 3) + x.fit(1, set, NONE, 3) + x.fit(2, set, NONE, 3));
        }
        int[] wrong = {0, 15, 1 << 15, 1 | 1 << 15, 1 << 16, 1 << 30, 1 << 31, -1, Integer.MAX_VALUE, 0x7800, 0x7fff,
            1 | 1 << 31};
        for (int set : wrong) {
            Checks.argument(x, () -> x.fit(0, set, NONE, 3));
            Checks.argument(x, () -> x.left(0, set, 0));
            Checks.argument(x, () -> x.worst(0, set));
            Checks.argument(x, () -> x.improve(0, set));
            if (set == 0) {
                Checks.due(true, () -> x.square(0, set) > 0);
            } else {
                Checks.argument(x, () -> x.square(0, set));
            }
        }
    }

    /** what is 1 or 2 and there are not so many UNKNOWNS. */
    private static void asManyAsAreAsked() {
        Moonmirror x = plain();
        int[] sets = {STATION_1, STATION_1 | MIRROR_0, STATION_1 | MIRROR_0 | DRIFT};
        for (int many = 1; many <= 3; many++) {
            int set = sets[many - 1];
            for (int k = 0; k <= 4; k++) {
                int what = k;
                if (what < 3 && what >= many) {
                    Checks.argument(x, () -> x.fit(0, set, NONE, what));
                } else {
                    Checks.due(0, () -> x.fit(0, set, NONE, what));
                }
            }
            Checks.argument(x, () -> x.fit(0, set, NONE, 5));
            Checks.argument(x, () -> x.fit(0, set, NONE, -1));
            Checks.index(x, () -> x.fit(0, set, 2, 5));
            Checks.index(x, () -> x.fit(0, set, -2, 5));
            Checks.index(x, () -> x.fit(1, set, 0, 5));
        }
        // The first one is the one with the least number.
        x.plant(1, 1, 0, 0, 16, 1);
        x.plant(0, 0, 1212, 0, 32, 1);
        Checks.due(64, () -> x.fit(0, sets[1], NONE, 0));
        Checks.due(64, () -> x.fit(0, sets[1], NONE, 1));
        x.plant(0, 1, 1212, 0, 40, 1);
        // 40 of 10 tens of NIGHTS: 16; 32 less 40 over 2: -16.
        Checks.due(64, () -> x.fit(0, sets[2], NONE, 0));
        Checks.due(-16, () -> x.fit(0, sets[2], NONE, 1));
        Checks.due(16, () -> x.fit(0, sets[2], NONE, 2));
    }

    /** PARTIALS: NIGHT / 10 for 14. */
    private static void tensOfNights() {
        int[] nights = {0, 9, 10, 19, 20, 350, 359};
        int[] fitted = {0, 0, 1400, 1400, 700, 40, 40};
        for (int k = 0; k < nights.length; k++) {
            Moonmirror x = plain();
            x.plant(0, 0, 12 * nights[k] + 11, 0, 350, 2);
            Checks.due(fitted[k], () -> x.fit(0, DRIFT, NONE, 0));
            Checks.due(fitted[k] == 0 ? 0 : 1, () -> x.fit(0, DRIFT, NONE, 4));
            Checks.due(1, () -> x.fit(0, DRIFT, NONE, 3));
        }
    }

    /** 1 for its STATION, 2 for its MIRROR, 2 * WAVE(PERIOD, TIME + PHASE) for a TERM; 0 otherwise. */
    private static void partials() {
        Moonmirror x = plain();
        x.term(0, 12, 1, 399);
        x.plant(0, 1, 2, 0, 100, 3);
        Checks.due(400, () -> x.fit(0, STATION_0, NONE, 0));
        Checks.due(0, () -> x.fit(0, STATION_1, NONE, 4));
        Checks.due(0, () -> x.fit(0, MIRROR_0, NONE, 4));
        Checks.due(200, () -> x.fit(0, MIRROR_1, NONE, 0));
        // WAVE(4, 2) is 0; WAVE(12, 401) is WAVE(12, 5), 3.
        Checks.due(0, () -> x.fit(0, TERM_0, NONE, 4));
        Checks.due(400 / 6, () -> x.fit(0, TERM_1, NONE, 0));
    }

    /** All POINTS that count, name that EPHEMERIS, and are not of the STATION left out. */
    private static void pointsOfTheFit() {
        Moonmirror x = plain();
        x.ephemeris(0);
        x.station(0, 0, 0, 0, 1);
        for (int k = 0; k < 8; k++) {
            x.plant(k % 2, 0, k, k / 4, k, 1);
        }
        Checks.due(4, () -> x.fit(0, MIRROR_0, NONE, 3));
        Checks.due(4, () -> x.fit(1, MIRROR_0, NONE, 3));
        Checks.due(2, () -> x.fit(0, MIRROR_0, 0, 3));
        Checks.due(2, () -> x.fit(0, MIRROR_0, 1, 3));
        Checks.due(4, () -> x.fit(0, MIRROR_0, 2, 3));
        Checks.index(x, () -> x.fit(0, MIRROR_0, 3, 3));
        x.flag(0, 1);
        x.flag(0, 2);
        Checks.due(4, () -> x.fit(0, MIRROR_0, NONE, 3));
        x.flag(0, 0);
        Checks.due(3, () -> x.fit(0, MIRROR_0, NONE, 3));
        x.flag(1, 3);
        Checks.due(2, () -> x.fit(0, MIRROR_0, NONE, 3));
        Checks.due(1, () -> x.fit(0, MIRROR_0, 0, 3));
        Checks.due(4, () -> x.fit(1, MIRROR_0, NONE, 3));
        // 2 and 3: 20 / 8; without the STATION 0 it is 3 alone.
        Checks.due(5, () -> x.fit(0, MIRROR_0, NONE, 0));
        Checks.due(6, () -> x.fit(0, MIRROR_0, 0, 0));
        Checks.due(4, () -> x.fit(0, MIRROR_0, 1, 0));
    }

    /** With a DET of 0 it can not be told (all that is FITTED is 0 then, wherever it is asked). */
    private static void canNotBeTold() {
        Moonmirror x = plain();
        x.plant(0, 0, 1, 0, 50, 1);
        x.plant(0, 0, 1, 0, -30, 2);
        // The STATION and the MIRROR are the same at each point, and so is the TERM.
        for (int set : new int[] {STATION_0 | MIRROR_0, STATION_0 | TERM_0, STATION_1, STATION_0 | MIRROR_0 | TERM_0, DRIFT}) {
            Checks.due(0, () -> x.fit(0, set, NONE, 4));
            Checks.due(0, () -> x.fit(0, set, NONE, 0));
            Checks.due(2, () -> x.fit(0, set, NONE, 3));
            Checks.due(200, () -> x.left(0, set, 0));
            Checks.due(-120, () -> x.left(0, set, 1));
            Checks.due(200L * 200 + 2 * 120 * 120, () -> x.square(0, set));
            Checks.due(0, () -> x.worst(0, set));
            Checks.state(x, () -> x.improve(0, set));
        }
        Checks.due(0, () -> x.fit(0, STATION_0 | MIRROR_0, NONE, 1));
        Checks.due(0, () -> x.fit(0, STATION_0 | MIRROR_0 | TERM_0, NONE, 2));
        Checks.due(1, () -> x.fit(0, STATION_0, NONE, 4));
        Checks.due(0, () -> x.fit(0, STATION_0, 0, 4));
        Checks.due(0, () -> x.fit(0, STATION_0, 0, 0));
        Checks.due(0, () -> x.fit(0, STATION_0, 0, 3));
        Checks.due(1, () -> x.many(0));
    }

    /** TOP * 4 / DET is rounded toward 0. */
    private static void roundedTowardZero() {
        for (int sign = -1; sign <= 1; sign += 2) {
            int up = sign;
            Moonmirror x = plain();
            x.plant(0, 0, 0, 0, sign, 1);
            x.plant(0, 0, 0, 0, 0, 2);
            Checks.due(up, () -> x.fit(0, STATION_0, NONE, 0));
            Checks.due(0, () -> x.fit(0, MIRROR_0, NONE, 0));
            x.amend(1, 2 * sign);
            // 5 * 4 / 3 is 6, 10 * 4 / 12 is 3.
            Checks.due(6 * up, () -> x.fit(0, STATION_0, NONE, 0));
            Checks.due(3 * up, () -> x.fit(0, MIRROR_0, NONE, 0));
            Checks.due(4 * up - 6 * up, () -> x.left(0, STATION_0, 0));
        }
    }

    /** HELD to -20000 and 20000. */
    private static void heldTo20000() {
        // s + 35 d is the first VALUE, s + 34 d the second one: s is 35 times the second one less 34 times the first.
        int[][] values = {{-6, 137, 19996}, {-5, 138, 20000}, {-4, 139, 20000}, {-400, 400, 20000}};
        for (int[] one : values) {
            for (int sign = -1; sign <= 1; sign += 2) {
                int up = sign;
                Moonmirror x = plain();
                x.plant(0, 0, 359 * 12, 0, up * one[0], 9);
                x.plant(0, 0, 349 * 12, 0, up * one[1], 1);
                Checks.due(up * one[2], () -> x.fit(0, STATION_0 | DRIFT, NONE, 0));
                int drift = 4 * (one[0] - one[1]);
                Checks.due(up * drift, () -> x.fit(0, STATION_0 | DRIFT, NONE, 1));
                int over = 4 * (35 * one[1] - 34 * one[0]) - one[2];
                Checks.due(up * over, () -> x.left(0, STATION_0 | DRIFT, 0));
                Checks.due(up * over, () -> x.left(0, STATION_0 | DRIFT, 1));
                Checks.due(10L * over * over, () -> x.square(0, STATION_0 | DRIFT));
            }
        }
    }

    /** LEFT at a POINT, whether it is of the FIT or not; by the EPHEMERIS of the FIT, whatever the POINT names. */
    private static void leftAtAnyPoint() {
        Moonmirror x = plain();
        x.ephemeris(0);
        x.term(1, 4, 1, 1);
        x.plant(0, 0, 1, 0, 160, 1);
        x.plant(1, 1, 3, 1, 7, 1);
        x.plant(1, 0, 1, 0, 9, 1);
        x.flag(2, 3);
        // By the EPHEMERIS 0 the TERM is 40 in 64ths, and WAVE at the TIME 3 is -8.
        Checks.due(40, () -> x.fit(0, TERM_0, NONE, 0));
        Checks.due(0, () -> x.left(0, TERM_0, 0));
        Checks.due(28 + 40 * 16, () -> x.left(0, TERM_0, 1));
        Checks.due(36 - 40 * 16, () -> x.left(0, TERM_0, 2));
        // By the EPHEMERIS 1 WAVE is 0 at the TIMES 1 and 3.
        Checks.due(0, () -> x.fit(1, TERM_0, NONE, 4));
        Checks.due(640, () -> x.left(1, TERM_0, 0));
        Checks.due(640, () -> x.fit(0, STATION_0, NONE, 0));
        Checks.due(28, () -> x.left(0, STATION_0, 1));
        Checks.index(x, () -> x.left(0, STATION_0, 3));
        Checks.index(x, () -> x.left(0, 0, 3));
        Checks.argument(x, () -> x.left(0, 0, 2));
    }

    /** SQUARE: of the POINTS of the FIT; 0 for none (then LEFT is 4 * VALUE); as a long. */
    private static void squares() {
        Moonmirror x = plain();
        x.ephemeris(0);
        Checks.due(0L, () -> x.square(0, 0));
        x.plant(0, 0, 0, 0, -400, 9);
        Checks.due(9L * 1600 * 1600, () -> x.square(0, 0));
        x.plant(0, 0, 0, 1, 1, 1);
        Checks.due(9L * 1600 * 1600, () -> x.square(0, 0));
        Checks.due(16L, () -> x.square(1, 0));
        x.flag(0, 0);
        Checks.due(0L, () -> x.square(0, 0));
        Checks.due(0L, () -> x.square(0, STATION_0));
        Checks.argument(x, () -> x.square(0, 1 << 2));
        Checks.argument(x, () -> x.square(0, Integer.MIN_VALUE));
        Checks.index(x, () -> x.square(2, 0));
        // More than an int holds.
        Moonmirror y = plain();
        for (int k = 0; k < 20; k++) {
            y.plant(0, 0, 4319, 0, 400, 9);
            y.plant(0, 0, 4199, 0, -400, 9);
        }
        Checks.due(-20000, () -> y.fit(0, STATION_0 | DRIFT, NONE, 0));
        Checks.due(40L * 9 * 90400 * 90400, () -> y.square(0, STATION_0 | DRIFT));
    }

    /** By its amount a bound (1 to 4000) or more. */
    private static void aBoundOrMore() {
        for (int sign = -1; sign <= 1; sign += 2) {
            Moonmirror x = plain();
            x.plant(0, 0, 0, 0, 16 * sign, 1);
            x.plant(1, 0, 0, 0, 16 * sign, 9);
            Checks.due(true, () -> x.claim(0, 4, 1));
            Checks.due(true, () -> x.claim(0, 4, 31));
            Checks.due(true, () -> x.claim(0, 4, 32));
            Checks.due(false, () -> x.claim(0, 4, 33));
            Checks.due(false, () -> x.claim(0, 4, 4000));
            Checks.argument(x, () -> x.claim(0, 4, 0));
            Checks.argument(x, () -> x.claim(0, 4, 4001));
            Checks.argument(x, () -> x.claim(0, 4, -1));
            Checks.due(5, () -> x.many(9));
            // All that is FITTED: 2 over both, 32 and 30 alone.
            x.amend(0, 15 * sign);
            Checks.due(true, () -> x.claim(0, 4, 30));
            Checks.due(false, () -> x.claim(0, 4, 31));
        }
        // The least one: at the NIGHT 40 the PARTIAL is 4, and so what is FITTED to a VALUE is that VALUE.
        for (int sign = -1; sign <= 1; sign += 2) {
            Moonmirror least = plain();
            least.plant(0, 0, 480, 0, sign, 1);
            least.plant(1, 0, 480, 0, sign, 1);
            Checks.due(sign, () -> least.fit(0, DRIFT, NONE, 0));
            Checks.due(true, () -> least.claim(0, 14, 1));
            Checks.due(false, () -> least.claim(0, 14, 2));
            least.amend(0, 4 * sign);
            Checks.due(2 * sign, () -> least.fit(0, DRIFT, NONE, 0));
            Checks.due(true, () -> least.claim(0, 14, 1));
            Checks.due(false, () -> least.claim(0, 14, 2));
            least.amend(1, 0);
            Checks.due(false, () -> least.claim(0, 14, 1));
        }
        // The greatest that there can be.
        Moonmirror most = plain();
        most.plant(0, 0, 120, 0, 400, 1);
        most.plant(1, 0, 120, 0, 400, 1);
        Checks.due(true, () -> most.claim(0, 14, 1600));
        Checks.due(false, () -> most.claim(0, 14, 1601));
    }

    /** Has the same sign: with each STATION that has a POINT of the FIT left out. */
    private static void theSameSign() {
        Moonmirror x = plain();
        x.plant(0, 0, 0, 0, 16, 9);
        x.plant(1, 0, 0, 0, -16, 1);
        Checks.due(25, () -> x.fit(0, MIRROR_0, NONE, 0));
        Checks.due(false, () -> x.claim(0, 4, 1));
        x.amend(1, 0);
        Checks.due(false, () -> x.claim(0, 4, 1));
        x.amend(1, 1);
        Checks.due(true, () -> x.claim(0, 4, 2));
        Checks.due(false, () -> x.claim(0, 4, 3));
        // All of them are 0.
        x.amend(0, 0);
        x.amend(1, 0);
        Checks.due(false, () -> x.claim(0, 4, 1));
        // The whole is below 0, and without one it is above.
        x.amend(0, -16);
        x.amend(1, 16);
        Checks.due(false, () -> x.claim(0, 4, 1));
        Checks.due(6, () -> x.many(9));
    }

    /** Can be told, also with each STATION left out: an UNKNOWN of one STATION alone never STANDS. */
    private static void neverOfOneStation() {
        Moonmirror x = plain();
        x.ephemeris(0);
        x.plant(0, 0, 120, 0, 16, 1);
        for (int unknown : new int[] {0, 1, 4, 5, 9, 14}) {
            Checks.due(false, () -> x.claim(0, unknown, 1));
        }
        // The other STATION has a POINT, but none of the FIT, or of another MIRROR.
        x.plant(1, 0, 120, 1, 16, 1);
        Checks.due(false, () -> x.claim(0, 4, 1));
        x.plant(1, 1, 120, 0, 16, 1);
        Checks.due(false, () -> x.claim(0, 4, 1));
        Checks.due(true, () -> x.claim(0, 14, 1));
        x.flag(2, 0);
        Checks.due(false, () -> x.claim(0, 14, 1));
        x.plant(1, 0, 120, 0, 16, 1);
        Checks.due(true, () -> x.claim(0, 4, 1));
        Checks.due(false, () -> x.claim(0, 0, 1));
        // A STATION without a POINT of the FIT is not left out.
        x.station(0, 0, 0, 0, 1);
        x.station(0, 0, 0, 0, 1);
        Checks.due(true, () -> x.claim(0, 4, 1));
        x.plant(2, 0, 120, 1, -400, 9);
        x.plant(3, 0, 120, 0, -400, 9);
        x.flag(5, 3);
        Checks.due(true, () -> x.claim(0, 4, 32));
        x.plant(3, 0, 120, 0, -400, 9);
        Checks.due(false, () -> x.claim(0, 4, 1));
    }

    /** TRIALS are counted: each CLAIM that is asked, whether it STANDS or not; one that is refused is none. */
    private static void trials() {
        Moonmirror x = BoundsTest.told();
        long before = Looks.all(x);
        Checks.due(0, () -> x.many(9));
        x.fit(0, 1, NONE, 0);
        x.bestUnknown(0);
        Checks.due(0, () -> x.many(9));
        x.claim(0, 14, 1);
        Checks.due(1, () -> x.many(9));
        Checks.argument(x, () -> x.claim(0, 14, 0));
        Checks.argument(x, () -> x.claim(0, 15, 1));
        Checks.index(x, () -> x.claim(3, 14, 1));
        Checks.due(1, () -> x.many(9));
        x.claim(0, 14, 1);
        Checks.due(2, () -> x.many(9));
        Checks.due(true, () -> Looks.all(x) != before);
    }

    /** The greatest amount of LEFT (of several the first one); NONE without POINTS. */
    private static void worstOfSeveral() {
        Moonmirror x = plain();
        Checks.due(NONE, () -> x.worst(0, DRIFT));
        int[] values = {0, -16, 5, 16, -16, 17, -18};
        int[] worst = {0, 1, 1, 1, 1, 5, 6};
        for (int k = 0; k < values.length; k++) {
            int number = k;
            x.plant(0, 0, 0, 0, values[number], 1);
            Checks.due(worst[number], () -> x.worst(0, DRIFT));
        }
        x.flag(6, 0);
        x.flag(5, 3);
        Checks.due(1, () -> x.worst(0, DRIFT));
        x.ephemeris(0);
        Checks.due(NONE, () -> x.worst(1, DRIFT));
        x.plant(0, 0, 0, 1, 0, 1);
        Checks.due(7, () -> x.worst(1, STATION_0));
    }

    /** The least SQUARE (those that can be told; of several the first one); NONE without one. */
    private static void bestOfSeveral() {
        Moonmirror x = plain();
        Checks.due(NONE, () -> x.bestUnknown(0));
        x.plant(1, 1, 1, 0, 16, 1);
        // 1, 5 and 9 leave 0; 0, 4 and 14 can not be told.
        Checks.due(1, () -> x.bestUnknown(0));
        x.plant(0, 1, 1, 0, 16, 1);
        Checks.due(5, () -> x.bestUnknown(0));
        x.plant(0, 0, 1, 0, 16, 1);
        Checks.due(9, () -> x.bestUnknown(0));
        x.plant(0, 0, 10 * 12, 0, 400, 9);
        // 14 leaves 3 * 64 * 64, the others much of the 400.
        Checks.due(14, () -> x.bestUnknown(0));
        Checks.due(3L * 64 * 64, () -> x.square(0, DRIFT));
        // With a 1 where 14 would have twice as much, the MIRROR 0 leaves the least.
        x.plant(0, 0, 20 * 12, 0, 1, 9);
        Checks.due(4, () -> x.bestUnknown(0));
        Checks.due(2L * 64 * 64 + 698 * 698 + 9 * 838 * 838 + 9 * 758 * 758, () -> x.square(0, MIRROR_0));
        x.ephemeris(0);
        Checks.due(NONE, () -> x.bestUnknown(1));
        x.plant(0, 1, 0, 1, 0, 1);
        Checks.due(0, () -> x.bestUnknown(1));
        x.flag(5, 0);
        Checks.due(NONE, () -> x.bestUnknown(1));
        x.plant(1, 1, 1200, 1, 0, 1);
        Checks.due(1, () -> x.bestUnknown(1));
        // Without a STATION and a MIRROR there is no POINT, and so none that can be told.
        Moonmirror bare = new Moonmirror();
        bare.ephemeris(0);
        Checks.due(NONE, () -> bare.bestUnknown(0));
    }

    /** Each AMPLITUDE has FITTED / 64 more (HELD to -50 and 50). */
    private static void heldTo50() {
        int[][] cases = {{48, 256, 49}, {49, 256, 50}, {50, 256, 50}, {49, 252, 49}, {50, -256, 49}, {44, 400, 45},
            {0, 400, 1}, {-1, 256, 0}, {0, 252, 0}, {0, 0, 0}};
        for (int[] one : cases) {
            for (int sign = -1; sign <= 1; sign += 2) {
                int up = sign;
                Moonmirror x = new Moonmirror();
                x.ephemeris(1000);
                x.term(0, 4, up * one[0], 0);
                x.term(0, 400, up * 7, 100);
                x.station(0, 0, 0, 0, 1);
                x.mirror(0, 1, 0);
                x.plant(0, 0, 1, 0, up * one[1], 1);
                Checks.due(up * one[1] / 4, () -> x.fit(0, TERM_0, NONE, 0));
                Checks.due(1, () -> x.improve(0, TERM_0));
                Checks.due(1000 + up * (8 * one[2] + 7 * 8), () -> x.range(1, 1));
                Checks.due(1000 + up * 7 * 8, () -> x.range(1, 0));
                Checks.due(1000 + up * (8 * one[0] + 7 * 8), () -> x.range(0, 1));
                Checks.due(4, () -> x.many(12));
            }
        }
        // 127 in 64ths is 1 more, 128 is 2: WAVE(12, 1) is 2; from 49 on both are held.
        int[][] ends = {{0, 127, 1}, {0, 128, 2}, {49, 127, 50}, {49, 128, 50}, {48, 128, 50}, {-50, 128, -48}};
        for (int[] one : ends) {
            Moonmirror x = new Moonmirror();
            x.ephemeris(0);
            x.term(0, 12, one[0], 0);
            x.station(0, 0, 0, 0, 1);
            x.mirror(0, 1, 0);
            x.plant(0, 0, 1, 0, one[1], 1);
            Checks.due(one[1], () -> x.fit(0, TERM_0, NONE, 0));
            x.improve(0, TERM_0);
            Checks.due(2 * one[2], () -> x.range(1, 1));
        }
    }

    /** Throws if there are 4, or the FIT can not be told. */
    private static void fourEphemerides() {
        Moonmirror x = plain();
        Checks.state(x, () -> x.improve(0, TERM_0));
        x.plant(0, 0, 1, 0, 64, 1);
        Checks.state(x, () -> x.improve(0, STATION_1));
        Checks.state(x, () -> x.improve(0, STATION_0 | MIRROR_0));
        Checks.argument(x, () -> x.improve(0, 1 << 2));
        for (int k = 1; k < 4; k++) {
            int number = k;
            Checks.due(number, () -> x.improve(0, STATION_0));
            Checks.due(number + 1, () -> x.many(0));
            // Without a TERM in the set all are as they were, and no POINT names the new one.
            Checks.due(100 + 80, () -> x.range(number, 1));
            Checks.due(0, () -> x.fit(number, STATION_0, NONE, 3));
            Checks.due(1, () -> x.term(number, 4, 1, 0));
        }
        Checks.state(x, () -> x.improve(0, STATION_0));
        Checks.state(x, () -> x.improve(0, TERM_0));
        Checks.state(x, () -> x.improve(3, TERM_0));
        Checks.argument(x, () -> x.improve(0, 0));
        Checks.argument(x, () -> x.improve(0, TERM_1));
        Checks.index(x, () -> x.improve(4, 0));
        Checks.due(4, () -> x.many(0));
    }

    public static void main(String[] args) {
        unknownsThatThereAre();
        oneToThree();
        asManyAsAreAsked();
        tensOfNights();
        partials();
        pointsOfTheFit();
        canNotBeTold();
        roundedTowardZero();
        heldTo20000();
        leftAtAnyPoint();
        squares();
        aBoundOrMore();
        theSameSign();
        neverOfOneStation();
        trials();
        worstOfSeveral();
        bestOfSeveral();
        heldTo50();
        fourEphemerides();
        Checks.end();
    }
}
