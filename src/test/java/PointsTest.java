/** Promises 22 to 33: points, and what is seen in their order. */
public final class PointsTest {
    private PointsTest() {
    }

    /** Two stations, two mirrors and two ephemerides; the first station has NIGHTS and the greatest chance. */
    private static Moonmirror plain() {
        Moonmirror x = new Moonmirror();
        x.ephemeris(0);
        x.ephemeris(0);
        x.station(0, 0, 0, 0, 9);
        x.station(0, 0, 0, 0, 9);
        x.mirror(0, 9, 0);
        x.mirror(0, 9, 0);
        x.give(0, 99);
        return x;
    }

    /** Points of the station 0, of a WEIGHT of 1, each a night behind the one ahead of it. */
    private static Moonmirror withValues(int... values) {
        Moonmirror x = plain();
        for (int k = 0; k < values.length; k++) {
            x.plant(0, 0, 12 * k, 0, values[k], 1);
        }
        return x;
    }

    private static void promise22Publish() {
        Moonmirror x = plain();
        Checks.index(x, () -> x.publish(0));
        x.shoot(0, 1, 5, 1, 20, 7);
        x.shoot(0, 0, 0, 0, 4, 0);
        x.shoot(0, 0, 0, 0, 3, 0);
        Checks.index(x, () -> x.publish(-1));
        Checks.index(x, () -> x.publish(3));
        // Three counts are no return.
        Checks.due(-1, () -> x.publish(2));
        Checks.due(-1, () -> x.publish(2));
        Checks.due(0, () -> x.publish(0));
        Checks.due(1, () -> x.publish(1));
        Checks.state(x, () -> x.publish(0));
        // 7 in -2, 4 in -1, 3 in 0: 16 * -18 / 14.
        int[] due = {0, 1, 5, 1, -20, 9, 0, 1, 1, -20, 1};
        for (int k = 0; k < due.length; k++) {
            int what = k;
            Checks.due(due[k], () -> x.ofPoint(0, what));
        }
        Checks.due(-20, () -> x.ofPoint(1, 4));
        Checks.due(4, () -> x.ofPoint(1, 5));
        Checks.due(1, () -> x.ofSession(1, 8));
        for (int k = 2; k < 40; k++) {
            x.plant(0, 0, 0, 0, 0, 1);
        }
        x.shoot(0, 0, 0, 0, 20, 7);
        Checks.state(x, () -> x.publish(3));
        Checks.state(x, () -> x.publish(2));
        Checks.index(x, () -> x.publish(4));
    }

    private static void promise22Returns() {
        Moonmirror x = plain();
        x.station(0, 0, 0, 0, 9);
        // A chance of 0 gives dark ones alone: 20 of them for the row of 0, and 4 * 4 is less.
        x.weather(0, 0, 50, 20);
        x.dust(1, 8);
        Checks.due(0, () -> x.chance(0, 1, 0));
        Checks.due(20, () -> x.shoot(0, 1, 0, 0, 60, 0));
        Checks.due(3, () -> x.ofSession(0, 5));
        Checks.due(4, () -> x.ofSession(0, 6));
        Checks.due(0, () -> x.ofSession(0, 7));
        Checks.due(-1, () -> x.publish(0));
        Checks.due(0, () -> x.many(6));
        Checks.due(-1, () -> x.ofSession(0, 8));
        // 16 counts and 17, with a COUNT of 4: 1 in -8, 2 in -7, 1 in -6.
        Checks.due(16, () -> x.shoot(0, 1, 0, 0, 47, 22));
        Checks.due(17, () -> x.shoot(0, 1, 0, 0, 48, 37));
        Checks.due(4, () -> x.ofSession(1, 6));
        Checks.due(4, () -> x.ofSession(2, 6));
        Checks.due(1, () -> x.ofSession(1, 7));
        Checks.due(0, () -> x.ofSession(2, 7));
        Checks.due(-1, () -> x.publish(2));
        Checks.due(0, () -> x.publish(1));
        Checks.due(-112, () -> x.ofPoint(0, 4));
    }

    /** All 40 points of one station. */
    private static void fortyOfOne() {
        Moonmirror x = plain();
        for (int k = 0; k < 40; k++) {
            x.plant(0, 0, 4319 - k, 0, k < 25 ? 7 + k % 2 : 100, 1);
        }
        // 13 of 7, 12 of 8, 15 of 100; the lower of both middle ones is the 20th.
        Checks.due(8, () -> x.median(0));
        Checks.due(24, () -> x.broken(0));
        Checks.due(-1, () -> x.turned(0, true));
        Checks.due(1, () -> x.arcs(0));
        Checks.due((13 * 7 + 12 * 8 + 15 * 100) / 40, () -> x.arc(0, 0));
        Checks.due(39, () -> x.suspect(90, 14));
        x.amend(0, -7);
        x.amend(1, -8);
        Checks.due(1, () -> x.turned(0, false));
        Checks.due(0, () -> x.turned(0, true));
    }

    private static void promise23Plant() {
        Moonmirror x = plain();
        Checks.index(x, () -> x.plant(2, 0, 0, 0, 0, 1));
        Checks.index(x, () -> x.plant(-1, 0, 0, 0, 0, 1));
        Checks.index(x, () -> x.plant(0, 2, 0, 0, 0, 1));
        Checks.index(x, () -> x.plant(0, -1, 0, 0, 0, 1));
        Checks.index(x, () -> x.plant(0, 0, 0, 2, 0, 1));
        Checks.index(x, () -> x.plant(0, 0, -1, -1, 0, 1));
        Checks.argument(x, () -> x.plant(0, 0, -1, 0, 0, 1));
        Checks.argument(x, () -> x.plant(0, 0, 4320, 0, 0, 1));
        Checks.argument(x, () -> x.plant(0, 0, 0, 0, -401, 1));
        Checks.argument(x, () -> x.plant(0, 0, 0, 0, 401, 1));
        Checks.argument(x, () -> x.plant(0, 0, 0, 0, 0, 0));
        Checks.argument(x, () -> x.plant(0, 0, 0, 0, 0, 10));
        Checks.due(0, () -> x.plant(0, 0, 0, 0, -400, 1));
        Checks.due(1, () -> x.plant(1, 1, 4319, 1, 400, 9));
        int[] due = {1, 1, 4319, 1, 400, 9, 0, 1, 0, 400, 1};
        for (int k = 0; k < due.length; k++) {
            int what = k;
            Checks.due(due[k], () -> x.ofPoint(1, what));
        }
        for (int k = 2; k < 40; k++) {
            int number = k;
            Checks.due(number, () -> x.plant(0, 0, 0, 0, 0, 1));
        }
        Checks.state(x, () -> x.plant(0, 0, 0, 0, 0, 1));
        Checks.argument(x, () -> x.plant(0, 0, 0, 0, 0, 0));
    }

    private static void promise24Amend() {
        Moonmirror x = withValues(10, 20);
        Checks.index(x, () -> x.amend(2, 0));
        Checks.index(x, () -> x.amend(-1, 500));
        Checks.argument(x, () -> x.amend(0, -401));
        Checks.argument(x, () -> x.amend(0, 401));
        Checks.due(2, () -> x.amend(0, 400));
        Checks.due(400, () -> x.ofPoint(0, 4));
        Checks.due(10, () -> x.ofPoint(0, 9));
        Checks.due(2, () -> x.ofPoint(0, 6));
        Checks.due(3, () -> x.amend(0, 400));
        Checks.due(400, () -> x.ofPoint(0, 9));
        Checks.due(4, () -> x.amend(0, -400));
        Checks.due(400, () -> x.ofPoint(0, 9));
        Checks.due(4, () -> x.ofPoint(0, 7));
        Checks.due(1, () -> x.ofPoint(0, 10));
        Checks.due(1, () -> x.ofPoint(1, 7));
        Checks.due(20, () -> x.ofPoint(1, 9));
    }

    private static void promise25Flag() {
        Moonmirror x = withValues(10, 20);
        Checks.index(x, () -> x.flag(2, 0));
        Checks.index(x, () -> x.flag(-1, 4));
        Checks.argument(x, () -> x.flag(0, -1));
        Checks.argument(x, () -> x.flag(0, 4));
        Checks.due(4, () -> x.flag(0, 2));
        Checks.due(6, () -> x.flag(0, 1));
        Checks.due(6, () -> x.flag(0, 1));
        Checks.due(1, () -> x.ofPoint(0, 10));
        Checks.due(14, () -> x.flag(0, 3));
        Checks.due(0, () -> x.ofPoint(0, 10));
        Checks.due(15, () -> x.flag(0, 0));
        Checks.due(1, () -> x.flag(1, 0));
        Checks.due(0, () -> x.ofPoint(1, 10));
        Checks.due(1, () -> x.ofPoint(0, 7));
    }

    private static void promise26Archive() {
        Moonmirror x = withValues(7, -7, 8, 0, 15);
        x.plant(1, 0, 12, 0, 7, 1);
        Checks.index(x, () -> x.archive(2, 0, 359, 8));
        Checks.index(x, () -> x.archive(-1, 0, 359, 0));
        Checks.argument(x, () -> x.archive(0, -1, 359, 8));
        Checks.argument(x, () -> x.archive(0, 0, 360, 8));
        Checks.argument(x, () -> x.archive(0, 5, 4, 8));
        Checks.argument(x, () -> x.archive(0, 0, 359, 1));
        Checks.argument(x, () -> x.archive(0, 0, 359, 65));
        x.flag(1, 0);
        Checks.due(1, () -> x.archive(0, 1, 3, 4));
        Checks.due(-4, () -> x.ofPoint(1, 4));
        Checks.due(-7, () -> x.ofPoint(1, 9));
        Checks.due(3, () -> x.ofPoint(1, 6));
        Checks.due(2, () -> x.ofPoint(1, 7));
        Checks.due(1, () -> x.ofPoint(2, 7));
        Checks.due(7, () -> x.ofPoint(0, 4));
        Checks.due(4, () -> x.archive(0, 0, 359, 64));
        Checks.due(1, () -> x.ofPoint(3, 7));
        Checks.due(7, () -> x.ofPoint(5, 4));
        Checks.due(0, () -> x.archive(0, 0, 359, 2));
        Checks.due(1, () -> x.archive(1, 1, 1, 2));
        Checks.due(6, () -> x.ofPoint(5, 4));
    }

    private static void promise27OfPoint() {
        Moonmirror x = plain();
        Checks.index(x, () -> x.ofPoint(0, 0));
        x.plant(1, 1, 77, 1, -5, 3);
        Checks.index(x, () -> x.ofPoint(1, 0));
        Checks.index(x, () -> x.ofPoint(-1, 11));
        Checks.argument(x, () -> x.ofPoint(0, -1));
        Checks.argument(x, () -> x.ofPoint(0, 11));
        x.amend(0, 6);
        x.flag(0, 3);
        int[] due = {1, 1, 77, 1, 6, 3, 10, 2, 0, -5, 0};
        for (int k = 0; k < due.length; k++) {
            int what = k;
            Checks.due(due[k], () -> x.ofPoint(0, what));
        }
    }

    private static void promise28Median() {
        Moonmirror x = withValues(5, -3, 9, 7);
        Checks.index(x, () -> x.median(2));
        Checks.index(x, () -> x.median(-1));
        Checks.due(5, () -> x.median(0));
        Checks.due(0, () -> x.median(1));
        x.flag(1, 3);
        Checks.due(7, () -> x.median(0));
        x.flag(3, 0);
        Checks.due(5, () -> x.median(0));
        x.flag(0, 2);
        Checks.due(5, () -> x.median(0));
        x.plant(1, 0, 0, 0, -8, 1);
        Checks.due(-8, () -> x.median(1));
    }

    private static void promise29Suspect() {
        Moonmirror x = withValues(0, 20, -21, 0, 0);
        x.plant(1, 0, 0, 0, 400, 1);
        x.plant(1, 0, 0, 0, -400, 1);
        Checks.argument(x, () -> x.suspect(-1, 0));
        Checks.argument(x, () -> x.suspect(801, 0));
        Checks.argument(x, () -> x.suspect(0, -1));
        Checks.due(1, () -> x.suspect(19, 0));
        Checks.due(2, () -> x.suspect(20, 0));
        Checks.due(5, () -> x.suspect(20, 1));
        Checks.due(-1, () -> x.suspect(20, 2));
        Checks.due(5, () -> x.suspect(799, 0));
        Checks.due(-1, () -> x.suspect(800, 0));
        Checks.due(1, () -> x.suspect(0, 0));
        Checks.due(5, () -> x.suspect(0, 2));
        Checks.due(-1, () -> x.suspect(0, Integer.MAX_VALUE));
        x.flag(2, 3);
        Checks.due(5, () -> x.suspect(20, 0));
        x.amend(0, 300);
        Checks.due(0, () -> x.suspect(20, 0));
    }

    private static void promise30Turned() {
        Moonmirror x = withValues(10, 12, -11, -13, 11);
        Checks.index(x, () -> x.turned(2, false));
        Checks.index(x, () -> x.turned(-1, true));
        Checks.due(-1, () -> x.turned(1, true));
        Checks.due(2, () -> x.turned(0, false));
        Checks.due(3, () -> x.turned(0, true));
        // One turned alone is no span: with 10 (or 11) it is not less than without.
        Moonmirror one = withValues(10, -10, 10);
        Checks.due(-1, () -> one.turned(0, false));
        Checks.due(-1, () -> one.turned(0, true));
        // A zero may stand at either end, or at both: the first, then the shorter span.
        Moonmirror zeros = withValues(10, 10, 10, 0, -10, 0, 10, 10);
        Checks.due(3, () -> zeros.turned(0, false));
        Checks.due(4, () -> zeros.turned(0, true));
        // Two apart, each worth the same.
        Moonmirror two = withValues(-10, -10, 10, 10, 10, 10, 10, -10, -10);
        Checks.due(0, () -> two.turned(0, false));
        Checks.due(1, () -> two.turned(0, true));
        // The order is that of the times, and the numbers are those of the points.
        Moonmirror late = plain();
        late.plant(0, 0, 50, 0, -9, 1);
        late.plant(0, 0, 40, 0, -9, 1);
        late.plant(0, 0, 60, 0, 9, 1);
        late.plant(0, 0, 70, 0, 9, 1);
        late.plant(0, 0, 80, 0, 9, 1);
        Checks.due(1, () -> late.turned(0, false));
        Checks.due(0, () -> late.turned(0, true));
        late.flag(0, 0);
        Checks.due(-1, () -> late.turned(0, true));
    }

    private static void promise31Broken() {
        Moonmirror x = withValues(0, 0, 0, 50, 50);
        Checks.index(x, () -> x.broken(2));
        Checks.index(x, () -> x.broken(-1));
        Checks.due(3, () -> x.broken(0));
        Checks.due(-1, () -> x.broken(1));
        // All alike: nothing becomes less; one alone: there are no two parts.
        Moonmirror alike = withValues(5, 5, 5);
        Checks.due(-1, () -> alike.broken(0));
        Moonmirror one = withValues(5);
        Checks.due(-1, () -> one.broken(0));
        // Ahead of 10 or behind it, both leave 10: the earliest.
        Moonmirror steps = withValues(0, 10, 20);
        Checks.due(1, () -> steps.broken(0));
        // The order is that of the times, of the same time that of the numbers.
        Moonmirror late = plain();
        late.plant(0, 0, 90, 0, 30, 1);
        late.plant(0, 0, 90, 0, 30, 1);
        late.plant(0, 0, 10, 0, 0, 1);
        late.plant(0, 0, 80, 0, 0, 1);
        Checks.due(0, () -> late.broken(0));
        late.flag(0, 3);
        Checks.due(1, () -> late.broken(0));
        Moonmirror two = withValues(0, 9);
        Checks.due(1, () -> two.broken(0));
        // As good with two parts as with one is not less.
        Moonmirror equal = withValues(1, 0, 1);
        Checks.due(-1, () -> equal.broken(0));
    }

    private static void promise32Arc() {
        Moonmirror x = plain();
        Checks.index(x, () -> x.arc(2, -1));
        Checks.index(x, () -> x.arc(-1, -1));
        Checks.index(x, () -> x.arc(0, 0));
        Checks.index(x, () -> x.arc(0, -2));
        Checks.due(0, () -> x.arc(0, -1));
        x.plant(0, 0, 11, 0, 10, 1);
        Checks.due(10, () -> x.arc(0, 0));
        Checks.due(0, () -> x.arc(0, -1));
        // The night 29 is 29 behind: the same arc; (10 + 3 * -21) / 4 is -13.
        x.plant(0, 0, 29 * 12, 0, -21, 3);
        Checks.due(-13, () -> x.arc(0, 0));
        Checks.index(x, () -> x.arc(0, 1));
        // The night 59 is 30 behind.
        x.plant(0, 0, 59 * 12, 0, 8, 9);
        Checks.due(8, () -> x.arc(0, 1));
        Checks.due(8 + 21, () -> x.arc(0, -1));
        x.plant(0, 0, 300 * 12, 0, 5, 2);
        Checks.due(5, () -> x.arc(0, 2));
        Checks.due(5 - 3, () -> x.arc(0, -1));
        Checks.index(x, () -> x.arc(0, 3));
        // Told last, but in the midst of the order.
        x.plant(0, 0, 60 * 12, 0, 0, 9);
        Checks.due(4, () -> x.arc(0, 1));
        Checks.due(0, () -> x.arc(1, -1));
    }

    private static void promise33Arcs() {
        Moonmirror x = plain();
        Checks.index(x, () -> x.arcs(2));
        Checks.index(x, () -> x.arcs(-1));
        Checks.due(0, () -> x.arcs(0));
        x.plant(0, 0, 60 * 12, 0, 10, 1);
        Checks.due(1, () -> x.arcs(0));
        x.plant(0, 0, 0, 0, 10, 1);
        Checks.due(2, () -> x.arcs(0));
        x.plant(0, 0, 30 * 12, 0, 10, 1);
        Checks.due(3, () -> x.arcs(0));
        x.plant(0, 0, 30 * 12 - 1, 0, 10, 1);
        Checks.due(2, () -> x.arcs(0));
        x.plant(0, 0, 31 * 12, 0, 10, 1);
        Checks.due(1, () -> x.arcs(0));
        x.flag(4, 0);
        Checks.due(2, () -> x.arcs(0));
        Checks.due(0, () -> x.arcs(1));
    }

    public static void main(String[] args) {
        promise22Publish();
        promise22Returns();
        fortyOfOne();
        promise23Plant();
        promise24Amend();
        promise25Flag();
        promise26Archive();
        promise27OfPoint();
        promise28Median();
        promise29Suspect();
        promise30Turned();
        promise31Broken();
        promise32Arc();
        promise33Arcs();
        Checks.end();
    }
}
