/** Section 4 of the document and its promises, sentence by sentence: each that names an edge has its test. */
public final class PointEdgesTest {
    private PointEdgesTest() {
    }

    /** Two stations of the greatest chance (60), the first one with NIGHTS given. */
    private static Moonmirror plain() {
        Moonmirror x = new Moonmirror();
        x.ephemeris(0);
        x.station(0, 0, 0, 0, 9);
        x.station(0, 0, 0, 0, 9);
        x.mirror(0, 9, 0);
        x.give(0, 99);
        return x;
    }

    /** Points of the station 0, of a WEIGHT of 1, each a NIGHT behind the one ahead of it. */
    private static Moonmirror withValues(int... values) {
        Moonmirror x = plain();
        for (int k = 0; k < values.length; k++) {
            x.plant(0, 0, 12 * k, 0, values[k], 1);
        }
        return x;
    }

    /** Points of the station 0, of a VALUE of 1, in these NIGHTS. */
    private static Moonmirror inNights(int... nights) {
        Moonmirror x = plain();
        for (int night : nights) {
            x.plant(0, 0, 12 * night + night % 12, 0, 1, 1);
        }
        return x;
    }

    private static void turn(Moonmirror x, int first, int last) {
        Checks.due(first + " to " + last, () -> x.turned(0, false) + " to " + x.turned(0, true));
    }

    /** POINTS: at most 40, numbered from 0 as they are PUBLISHED, never taken away. */
    private static void fortyPoints() {
        Moonmirror x = plain();
        x.shoot(0, 0, 0, 0, 4, 0);
        x.shoot(0, 0, 0, 0, 4, 1);
        x.shoot(0, 0, 0, 0, 3, 0);
        for (int k = 0; k < 39; k++) {
            int number = k;
            Checks.index(x, () -> x.ofPoint(number, 0));
            Checks.due(number, () -> x.plant(number % 2, 0, number, 0, number, 1));
            Checks.due(number + 1, () -> x.many(6));
        }
        Checks.due(-1, () -> x.publish(2));
        Checks.due(39, () -> x.publish(0));
        Checks.due(40, () -> x.many(6));
        Checks.state(x, () -> x.plant(0, 0, 0, 0, 0, 1));
        Checks.argument(x, () -> x.plant(0, 0, 0, 0, 401, 1));
        Checks.index(x, () -> x.plant(2, 0, 0, 0, 401, 1));
        Checks.state(x, () -> x.publish(0));
        Checks.state(x, () -> x.publish(1));
        // That it is no RETURN does not stand ahead of the 40.
        Checks.state(x, () -> x.publish(2));
        Checks.index(x, () -> x.publish(3));
        Checks.index(x, () -> x.ofPoint(40, 0));
        for (int k = 0; k < 40; k++) {
            x.flag(k, 0);
            x.flag(k, 3);
        }
        Checks.due(40, () -> x.many(6));
        Checks.due(0, () -> x.many(7));
        Checks.due(39, () -> x.many(8));
        Checks.state(x, () -> x.plant(0, 0, 0, 0, 0, 1));
    }

    /** A SESSION is PUBLISHED once. */
    private static void publishedOnce() {
        Moonmirror x = plain();
        x.shoot(0, 0, 0, 0, 4, 0);
        x.shoot(0, 0, 0, 0, 4, 0);
        x.shoot(0, 0, 0, 0, 3, 0);
        Checks.due(0, () -> x.publish(1));
        Checks.state(x, () -> x.publish(1));
        Checks.due(-1, () -> x.ofSession(0, 8));
        Checks.due(0, () -> x.ofSession(1, 8));
        // What is no RETURN is not PUBLISHED, however often.
        Checks.due(-1, () -> x.publish(2));
        Checks.due(-1, () -> x.publish(2));
        Checks.due(1, () -> x.publish(0));
        Checks.state(x, () -> x.publish(0));
        Checks.due(2, () -> x.many(6));
        Checks.due(0, () -> x.many(8));
    }

    /** VALUE is 16 * (the sum of BIN * counts over the three BINS) / COUNT, rounded toward 0. */
    private static void valuesOfReturns() {
        Moonmirror x = plain();
        // 1 in -1, 2 in 0, 2 in 1: 16 / 5; 3 in -1, 2 in 1: -16 / 5; 2 in -1, 2 in 1: 0.
        int[] seeds = {9, 47, 1};
        int[] values = {3, -3, 0};
        for (int k = 0; k < 3; k++) {
            int number = k;
            x.shoot(0, 0, 0, 0, number == 2 ? 4 : 5, seeds[number]);
            Checks.due(0, () -> x.ofSession(number, 5));
            Checks.due(number, () -> x.publish(number));
            Checks.due(values[number], () -> x.ofPoint(number, 4));
            Checks.due(values[number], () -> x.ofPoint(number, 9));
        }
    }

    /** WEIGHT is COUNT, 9 at most. */
    private static void weightNineAtMost() {
        Moonmirror x = plain();
        int[][] shots = {{4, 0, 4, 4}, {8, 56, 8, 8}, {9, 56, 9, 9}, {10, 73, 10, 9}, {60, 0, 37, 9}};
        for (int k = 0; k < shots.length; k++) {
            int number = k;
            x.shoot(0, 0, 0, 0, shots[number][0], shots[number][1]);
            Checks.due(shots[number][2], () -> x.ofSession(number, 6));
            Checks.due(number, () -> x.publish(number));
            Checks.due(shots[number][3], () -> x.ofPoint(number, 5));
            Checks.due(1, () -> x.ofPoint(number, 8));
        }
    }

    /** To AMEND a POINT: a VALUE (also the one that it has); the VALUE ahead of that is kept as OLD (each time). */
    private static void amended() {
        Moonmirror x = withValues(7, 8);
        Checks.due(7, () -> x.ofPoint(0, 9));
        Checks.due(2, () -> x.amend(0, 7));
        Checks.due(7, () -> x.ofPoint(0, 4));
        Checks.due(7, () -> x.ofPoint(0, 9));
        Checks.due(2, () -> x.ofPoint(0, 6));
        Checks.due(3, () -> x.amend(0, -400));
        Checks.due(7, () -> x.ofPoint(0, 9));
        Checks.due(4, () -> x.amend(0, 400));
        Checks.due(-400, () -> x.ofPoint(0, 9));
        Checks.due(5, () -> x.amend(0, 400));
        Checks.due(400, () -> x.ofPoint(0, 9));
        Checks.argument(x, () -> x.amend(0, 401));
        Checks.argument(x, () -> x.amend(0, -401));
        Checks.due(5, () -> x.ofPoint(0, 7));
        Checks.due(1, () -> x.ofPoint(1, 7));
        Checks.due(0, () -> x.ofPoint(1, 6));
        // One that does not count may be amended, too, and does not count then either.
        x.flag(1, 0);
        Checks.due(2, () -> x.amend(1, 0));
        Checks.due(3, () -> x.ofPoint(1, 6));
        Checks.due(0, () -> x.ofPoint(1, 10));
        Checks.due(0, () -> x.ofPoint(1, 4));
        Checks.due(8, () -> x.ofPoint(1, 9));
        Checks.due(true, () -> x.isSound());
    }

    /** FLAGS (a set of 0 to 3, empty at first); a POINT counts, if it has neither FLAG 0 nor FLAG 3. */
    private static void flags() {
        Moonmirror x = plain();
        for (int set = 0; set < 16; set++) {
            int number = set;
            x.plant(0, 0, 0, 0, 0, 1);
            Checks.due(0, () -> x.ofPoint(number, 6));
            Checks.due(1, () -> x.ofPoint(number, 10));
            int flags = 0;
            for (int flag = 3; flag >= 0; flag--) {
                if ((set >> flag & 1) == 1) {
                    int asked = flag;
                    flags += 1 << flag;
                    int due = flags;
                    Checks.due(due, () -> x.flag(number, asked));
                    Checks.due(due, () -> x.flag(number, asked));
                }
            }
            Checks.due(set, () -> x.ofPoint(number, 6));
            Checks.due(number % 2 == 0 && number < 8 ? 1 : 0, () -> x.ofPoint(number, 10));
            Checks.due(number + " of 0 at 0.0 by 0: 0 (1) v1" + (number == 0 ? "" : " flagged") + " unseen",
                    () -> x.tell(number));
        }
        Checks.due(4, () -> x.many(7));
        Checks.due(16, () -> x.ofStation(0, 3));
        Checks.argument(x, () -> x.flag(0, 4));
        Checks.argument(x, () -> x.flag(0, -1));
        Checks.argument(x, () -> x.flag(0, 32));
        Checks.due(1, () -> x.ofPoint(15, 7));
    }

    /** Each POINT of a STATION from a NIGHT to a NIGHT (both in it). */
    private static void archivedFromTo() {
        Moonmirror x = plain();
        int[] times = {59, 60, 71, 72, 83, 84};
        for (int time : times) {
            x.plant(0, 0, time, 0, 5, 1);
        }
        x.plant(1, 0, 60, 0, 5, 1);
        Checks.due(4, () -> x.archive(0, 5, 6, 2));
        int[] due = {5, 4, 4, 4, 4, 5, 5};
        for (int k = 0; k < due.length; k++) {
            int number = k;
            Checks.due(due[number], () -> x.ofPoint(number, 4));
            Checks.due(6 - due[number], () -> x.ofPoint(number, 7));
            Checks.due(5, () -> x.ofPoint(number, 9));
            Checks.due(due[number] == 4 ? 2 : 0, () -> x.ofPoint(number, 6));
        }
        Checks.due(1, () -> x.archive(0, 4, 4, 2));
        Checks.due(1, () -> x.archive(0, 0, 359, 2));
        Checks.due(0, () -> x.archive(0, 0, 359, 2));
        Checks.due(1, () -> x.archive(1, 5, 5, 64));
    }

    /** To VALUE / step * step (2 to 64), if that is another one; also one that does not count. */
    private static void archivedByAStep() {
        Moonmirror x = withValues(63, 64, 65, -63, -64, -65, 400, -400, 0, 1);
        x.flag(0, 3);
        Checks.due(7, () -> x.archive(0, 0, 359, 64));
        int[] due = {0, 64, 64, 0, -64, -64, 384, -384, 0, 0};
        for (int k = 0; k < due.length; k++) {
            int number = k;
            Checks.due(due[number], () -> x.ofPoint(number, 4));
            boolean isSame = number == 1 || number == 4 || number == 8;
            Checks.due(isSame ? 1 : 2, () -> x.ofPoint(number, 7));
        }
        Checks.due(10, () -> x.ofPoint(0, 6));
        Checks.argument(x, () -> x.archive(0, 0, 359, 1));
        Checks.argument(x, () -> x.archive(0, 0, 359, 65));
        Checks.argument(x, () -> x.archive(0, 0, 359, 0));
        Moonmirror two = withValues(1, 2, 3, -1, -2, -3);
        Checks.due(4, () -> two.archive(0, 0, 359, 2));
        int[] even = {0, 2, 2, 0, -2, -2};
        for (int k = 0; k < even.length; k++) {
            int number = k;
            Checks.due(even[number], () -> two.ofPoint(number, 4));
        }
        Checks.due(0, () -> plain().archive(0, 0, 359, 2));
    }

    /** The MEDIAN: the lower one of both middle ones, if their number is even; 0 without POINTS that count. */
    private static void medians() {
        Moonmirror x = plain();
        Checks.due(0, () -> x.median(0));
        int[] values = {9, -3, 5, 7, 7, -400};
        int[] due = {9, -3, 5, 5, 7, 5};
        for (int k = 0; k < values.length; k++) {
            int number = k;
            x.plant(0, 0, 100 - number, 0, values[number], 9);
            Checks.due(due[number], () -> x.median(0));
        }
        Checks.due(0, () -> x.median(1));
        for (int k = 0; k < values.length; k++) {
            Checks.due(true, () -> x.median(0) != 0);
            x.flag(k, k % 2 == 0 ? 0 : 3);
        }
        Checks.due(0, () -> x.median(0));
    }

    /** SUSPECT: by more than a bound (0 to 800), if it counts. */
    private static void moreThanABound() {
        Moonmirror x = withValues(100, 100, 110, 89, 100);
        Checks.due(2, () -> x.suspect(0, 0));
        Checks.due(3, () -> x.suspect(0, 1));
        Checks.due(-1, () -> x.suspect(0, 2));
        Checks.due(2, () -> x.suspect(9, 0));
        Checks.due(3, () -> x.suspect(10, 0));
        Checks.due(-1, () -> x.suspect(10, 1));
        Checks.due(-1, () -> x.suspect(11, 0));
        x.flag(3, 1);
        Checks.due(3, () -> x.suspect(10, 0));
        x.flag(3, 0);
        Checks.due(-1, () -> x.suspect(10, 0));
        Checks.due(2, () -> x.suspect(9, 0));
        Moonmirror far = withValues(-400, 400);
        Checks.due(1, () -> far.suspect(799, 0));
        Checks.due(-1, () -> far.suspect(800, 0));
        Checks.argument(far, () -> far.suspect(801, 0));
        Checks.argument(far, () -> far.suspect(-1, 0));
        Checks.argument(far, () -> far.suspect(0, -1));
        Checks.due(-1, () -> far.suspect(0, Integer.MAX_VALUE));
        Checks.due(-1, () -> new Moonmirror().suspect(0, 0));
    }

    /** The MEDIAN of all POINTS of its STATION, each by its own. */
    private static void suspectsOfEachStation() {
        Moonmirror x = plain();
        x.station(0, 0, 0, 0, 1);
        x.station(0, 0, 0, 0, 1);
        for (int k = 0; k < 12; k++) {
            x.plant(k % 4, 0, k, 0, 100 * (k % 4) + (k == 5 || k == 8 ? 7 : 0), 1);
        }
        Checks.due(5, () -> x.suspect(6, 0));
        Checks.due(8, () -> x.suspect(6, 1));
        Checks.due(-1, () -> x.suspect(6, 2));
        Checks.due(-1, () -> x.suspect(7, 0));
    }

    /** A BREAK: parted into two, neither empty; only if that is less than the sum by which all of them differ. */
    private static void onlyIfItIsLess() {
        Checks.due(-1, () -> withValues().broken(0));
        Checks.due(-1, () -> withValues(9).broken(0));
        Checks.due(-1, () -> withValues(9, 9).broken(0));
        // From 1 to 0, and from 1 to 1.
        Checks.due(1, () -> withValues(0, 1).broken(0));
        Checks.due(1, () -> withValues(1, 0).broken(0));
        Checks.due(-1, () -> withValues(1, 0, 1).broken(0));
        Checks.due(-1, () -> withValues(-400, 400, -400).broken(0));
        Checks.due(1, () -> withValues(9, 0, 0, 0).broken(0));
        Checks.due(3, () -> withValues(0, 0, 0, 9).broken(0));
        // By a MEDIAN of each part: 51 for all; 25, 8 and 25 ahead of the points 2, 3 and 4.
        Checks.due(3, () -> withValues(5, 1, 3, 20, 22, 18).broken(0));
        Checks.due(2, () -> withValues(-100, -90, 100, 90, 95).broken(0));
    }

    /** Of several the earliest. */
    private static void earliestBreak() {
        Checks.due(1, () -> withValues(0, 10, 20).broken(0));
        Checks.due(1, () -> withValues(20, 10, 0).broken(0));
        // 40 for all; 20 ahead of the points 2, 3 and 4 alike, 30 ahead of 1 and 5.
        Checks.due(2, () -> withValues(0, 0, 10, 10, 20, 20).broken(0));
        Moonmirror x = withValues(0, 0, 9, 9);
        Checks.due(2, () -> x.broken(0));
        x.flag(2, 1);
        Checks.due(2, () -> x.broken(0));
        x.flag(2, 0);
        Checks.due(3, () -> x.broken(0));
        x.flag(3, 3);
        Checks.due(-1, () -> x.broken(0));
    }

    /** In the order of their TIMES (of the same TIME by their numbers). */
    private static void inTheirOrder() {
        Moonmirror x = plain();
        int[] times = {500, 300, 500, 300, 400};
        int[] values = {90, 0, 91, 1, 90};
        for (int k = 0; k < times.length; k++) {
            x.plant(0, 0, times[k], 0, values[k], 1);
        }
        // 1, 3, 4, 0, 2.
        Checks.due(4, () -> x.broken(0));
        x.flag(4, 0);
        Checks.due(0, () -> x.broken(0));
        x.flag(0, 0);
        Checks.due(2, () -> x.broken(0));
        Moonmirror same = plain();
        for (int value : new int[] {8, -8, -8, 8, 8}) {
            same.plant(0, 0, 77, 0, value, 1);
        }
        turn(same, 1, 2);
    }

    /** A new ARC begins with a POINT whose NIGHT is more than 29 behind that of the one ahead of it. */
    private static void moreThan29() {
        Checks.due(0, () -> inNights().arcs(0));
        Checks.due(1, () -> inNights(359).arcs(0));
        Checks.due(1, () -> inNights(0, 29).arcs(0));
        Checks.due(2, () -> inNights(0, 30).arcs(0));
        Checks.due(1, () -> inNights(0, 29, 58, 87).arcs(0));
        Checks.due(3, () -> inNights(0, 30, 59, 89).arcs(0));
        Checks.due(3, () -> inNights(359, 0, 180).arcs(0));
        Checks.due(12, () -> inNights(0, 30, 60, 90, 120, 150, 180, 210, 240, 270, 300, 330).arcs(0));
        // NIGHTS, not TIMES: 29 NIGHTS and 11 SLOTS, 29 NIGHTS and a SLOT, 30 NIGHTS less 11 SLOTS.
        Moonmirror x = plain();
        x.plant(0, 0, 0, 0, 1, 1);
        x.plant(0, 0, 29 * 12 + 11, 0, 1, 1);
        Checks.due(1, () -> x.arcs(0));
        x.plant(0, 0, 59 * 12, 0, 1, 1);
        Checks.due(2, () -> x.arcs(0));
        Checks.due(0, () -> x.arcs(1));
        // One that does not count is none ahead of it.
        Moonmirror y = inNights(0, 20, 40);
        Checks.due(1, () -> y.arcs(0));
        y.flag(1, 2);
        Checks.due(1, () -> y.arcs(0));
        y.flag(1, 3);
        Checks.due(2, () -> y.arcs(0));
    }

    /** What an ARC tells is the sum of WEIGHT * VALUE / the sum of WEIGHTS. */
    private static void whatAnArcTells() {
        Moonmirror x = plain();
        x.plant(0, 0, 0, 0, 10, 1);
        x.plant(0, 0, 12, 0, 21, 3);
        x.plant(0, 0, 1200, 0, -10, 1);
        x.plant(0, 0, 1212, 0, -21, 3);
        x.plant(0, 0, 2400, 0, 400, 9);
        x.plant(0, 0, 2400, 0, 400, 9);
        // 73 / 4 and -73 / 4.
        Checks.due(18, () -> x.arc(0, 0));
        Checks.due(-18, () -> x.arc(0, 1));
        Checks.due(400, () -> x.arc(0, 2));
        Checks.index(x, () -> x.arc(0, 3));
        Checks.index(x, () -> x.arc(0, -2));
        Checks.index(x, () -> x.arc(1, 0));
        Checks.due(0, () -> x.arc(1, -1));
        Checks.index(x, () -> x.arc(2, -1));
    }

    /** FORETOLD of a STATION with two ARCS or more; 0, if there are less than two. */
    private static void foretold() {
        Moonmirror x = plain();
        Checks.due(0, () -> x.arc(0, -1));
        x.plant(0, 0, 0, 0, 10, 1);
        Checks.due(0, () -> x.arc(0, -1));
        x.plant(0, 0, 360, 0, 25, 1);
        Checks.due(40, () -> x.arc(0, -1));
        x.plant(0, 0, 720, 0, -400, 1);
        Checks.due(-400 - 425, () -> x.arc(0, -1));
        x.plant(0, 0, 1080, 0, 400, 1);
        Checks.due(400 + 800, () -> x.arc(0, -1));
        x.flag(3, 0);
        x.flag(2, 0);
        Checks.due(40, () -> x.arc(0, -1));
        x.flag(0, 0);
        Checks.due(0, () -> x.arc(0, -1));
    }

    /** A TURN: of all spans of two POINTS or more; only if it becomes less. */
    private static void turnsOfTwoOrMore() {
        turn(withValues(), -1, -1);
        turn(withValues(-9), -1, -1);
        turn(withValues(9, 9), -1, -1);
        turn(withValues(9, -9), -1, -1);
        turn(withValues(9, -9, 9), -1, -1);
        // It becomes less by turning the last one and a 0; without the 0 it would be one alone.
        turn(withValues(9, 9, 9, -9), -1, -1);
        turn(withValues(9, 9, 9, 0, -9), 3, 4);
        turn(withValues(9, 9, 9, -9, -9), 3, 4);
        turn(withValues(-9, -9, 9, 9, 9), 0, 1);
        turn(withValues(-1, -1, 1, 1, 1), 0, 1);
        // All of the first five at once.
        turn(withValues(-9, -8, -7, -8, -9, 9, 9, 9, 9, 9, 9), 0, 4);
        // 5 turned is worse by 2 * 5, -9 twice better by 2 * 7: one span over all three.
        turn(withValues(7, 7, 7, -9, 5, -9, 7, 7), 3, 5);
        // The MEDIAN is 0: whatever is turned, nothing becomes less.
        turn(withValues(0, 0, 0, 5, -5), -1, -1);
    }

    /** Of several the one that begins first, then the shorter one. */
    private static void firstThenShorter() {
        turn(withValues(5, 5, 5, 0, -5, 0, 5), 3, 4);
        turn(withValues(5, 5, 5, 0, 0, -5, 5), 3, 5);
        turn(withValues(5, 5, 5, 5, -5, 0, 0), 4, 5);
        turn(withValues(5, 5, 5, 5, -5, -5, 0), 4, 5);
        turn(withValues(-5, 0, 5, 5, 5), 0, 1);
        turn(withValues(0, -5, 5, 5, 5), 0, 1);
        turn(withValues(-5, -5, 5, 5, 5, 5, 5, -5, -5), 0, 1);
    }

    /** The MEDIAN ahead of that: that of the VALUES as they are. */
    private static void byTheMedianAhead() {
        // The MEDIAN is -9: the two 9 are turned, though as many are above 0.
        turn(withValues(-9, 9, 9, -9), 1, 2);
        turn(withValues(9, 9, -9, -9), 0, 1);
        turn(withValues(-9, -9, 9, 9), 2, 3);
        Moonmirror x = withValues(3, 3, 3, -3, -3, 3);
        turn(x, 3, 4);
        Checks.due(3, () -> x.median(0));
        Checks.due(-3, () -> x.ofPoint(3, 4));
        Checks.due(-1, () -> x.turned(1, false));
        Checks.due(-1, () -> x.turned(1, true));
        x.flag(3, 0);
        turn(x, -1, -1);
    }

    public static void main(String[] args) {
        fortyPoints();
        publishedOnce();
        valuesOfReturns();
        weightNineAtMost();
        amended();
        flags();
        archivedFromTo();
        archivedByAStep();
        medians();
        moreThanABound();
        suspectsOfEachStation();
        onlyIfItIsLess();
        earliestBreak();
        inTheirOrder();
        moreThan29();
        whatAnArcTells();
        foretold();
        turnsOfTwoOrMore();
        firstThenShorter();
        byTheMedianAhead();
        Checks.end();
    }
}
