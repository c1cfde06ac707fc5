/** All that may be asked of an object without a change, as one number: what a call changes is seen in it. */
final class Looks {
    /** It shares no part with 12, so every slot is met. */
    private static final int STEP = 41;
    private static final int TIMES = 4320;

    private final Moonmirror x;
    private long sum;

    private Looks(Moonmirror x) {
        this.x = x;
        sum = x.digest();
    }

    static long all(Moonmirror x) {
        Looks looks = new Looks(x);
        looks.atTheSky();
        if (x.many(0) > 0) {
            looks.atTheLight();
        }
        looks.atSessions();
        looks.atPoints();
        return looks.sum;
    }

    private void see(long answer) {
        sum = sum * 1000003 + answer;
    }

    private void atTheSky() {
        for (int time = 0; time < TIMES; time += STEP) {
            for (int number = 0; number < x.many(0); number++) {
                see(x.range(number, time));
            }
            for (int number = 0; number < x.many(1); number++) {
                see(x.sky(number, time));
                for (int mirror = 0; mirror < x.many(2); mirror++) {
                    see(x.chance(number, mirror, time / 12));
                }
            }
        }
    }

    private void atTheLight() {
        for (int time = 0; time < TIMES; time += STEP) {
            for (int station = 0; station < x.many(1); station++) {
                for (int mirror = 0; mirror < x.many(2); mirror++) {
                    see(x.light(station, mirror, time, -1));
                    see(x.light(station, mirror, time, x.many(0) - 1));
                }
            }
        }
    }

    private void atSessions() {
        for (int number = 0; number < x.many(3); number++) {
            for (int bin = 20; bin <= 60; bin++) {
                see(x.ofSession(number, bin));
            }
        }
    }

    private void atPoints() {
        for (int number = 0; number < x.many(6); number++) {
            see(x.tell(number).hashCode());
        }
        for (int station = 0; station < x.many(1); station++) {
            for (int arc = 0; arc < x.arcs(station); arc++) {
                see(x.arc(station, arc));
            }
            see(x.turned(station, true));
        }
        for (int nth = 0; nth < x.many(6); nth++) {
            see(x.suspect(0, nth));
        }
    }
}
