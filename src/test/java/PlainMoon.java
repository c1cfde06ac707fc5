import java.math.BigInteger;
import java.util.ArrayList;
import java.util.Collections;
import java.util.Comparator;
import java.util.HashSet;
import java.util.LinkedHashMap;
import java.util.List;
import java.util.Map;
import java.util.Set;
import java.util.TreeMap;

/**
 * A second writing of ../shared/DOC.md, slow and with the Java library, that the program is held against.
 * It takes the words one by one; nothing of it is shared with the program.
 */
final class PlainMoon {
    static final class Eph {
        int mean;
        List<int[]> terms = new ArrayList<>();
    }

    static final class Stn {
        int height;
        int tide;
        int drift;
        int clock;
        int power;
        int given;
        int shots;
        Set<Integer> used = new HashSet<>();
    }

    static final class Mir {
        int depth;
        int size;
        int dust;
        boolean found;
    }

    static final class Ses {
        int[] names;
        int point = -1;
        Map<Integer, Integer> bins = new TreeMap<>();
    }

    static final class Pnt {
        int[] names;
        int value;
        int weight;
        Set<Integer> flags = new HashSet<>();
        List<Integer> olds = new ArrayList<>();
        boolean seen;
    }

    private final List<Eph> ephs = new ArrayList<>();
    private final List<Stn> stns = new ArrayList<>();
    private final List<Mir> mirs = new ArrayList<>();
    private final List<int[]> reports = new ArrayList<>();
    private final List<int[]> planes = new ArrayList<>();
    private final List<int[]> leaps = new ArrayList<>();
    private final List<int[]> ties = new ArrayList<>();
    private final List<Ses> allSessions = new ArrayList<>();
    private final List<Pnt> pnts = new ArrayList<>();
    private final int[] beliefs = new int[16];
    private int missed;
    private int trials;
    private int knocks;

    PlainMoon() {
        for (int k = 0; k < 16; k++) {
            beliefs[k] = 64;
        }
    }

    private static void index(boolean bad) {
        if (bad) {
            throw new IndexOutOfBoundsException();
        }
    }

    private static void arg(boolean bad) {
        if (bad) {
            throw new IllegalArgumentException();
        }
    }

    private static void state(boolean bad) {
        if (bad) {
            throw new IllegalStateException();
        }
    }

    private static boolean out(int x, int least, int most) {
        return !(least <= x && x <= most);
    }

    private void needStation(int s) {
        index(out(s, 0, stns.size() - 1));
    }

    private void needMirror(int m) {
        index(out(m, 0, mirs.size() - 1));
    }

    private void needEphemeris(int e) {
        index(out(e, 0, ephs.size() - 1));
    }

    private void needPoint(int p) {
        index(out(p, 0, pnts.size() - 1));
    }

    private List<Ses> sessions() {
        return allSessions.subList(Math.max(0, allSessions.size() - 8), allSessions.size());
    }

    int ephemeris(int mean) {
        arg(out(mean, 0, 9999));
        state(ephs.size() == 4);
        Eph e = new Eph();
        e.mean = mean;
        ephs.add(e);
        return ephs.indexOf(e);
    }

    int term(int ephemeris, int period, int amplitude, int phase) {
        needEphemeris(ephemeris);
        arg(out(period, 4, 400) || out(amplitude, -50, 50) || out(phase, 0, 399));
        Eph e = ephs.get(ephemeris);
        state(e.terms.size() == 5 || pnts.stream().anyMatch(p -> p.names[3] == ephemeris));
        e.terms.add(new int[] {period, amplitude, phase});
        return e.terms.size() - 1;
    }

    int station(int height, int tide, int drift, int clock, int power) {
        arg(out(height, 0, 40) || out(tide, 0, 9) || out(drift, -9, 9) || out(clock, -9, 9) || out(power, 1, 9));
        state(stns.size() == 4);
        Stn s = new Stn();
        s.height = height;
        s.tide = tide;
        s.drift = drift;
        s.clock = clock;
        s.power = power;
        stns.add(s);
        return stns.indexOf(s);
    }

    int mirror(int depth, int size, int dust) {
        arg(out(depth, -99, 99) || out(size, 1, 9) || out(dust, 0, 8));
        state(mirs.size() == 5);
        Mir m = new Mir();
        m.depth = depth;
        m.size = size;
        m.dust = dust;
        mirs.add(m);
        return mirs.indexOf(m);
    }

    private int[] report(int station, int night) {
        int[] best = {station, -1, 50, 0};
        for (int n = 0; n <= night; n++) {
            for (int[] r : reports) {
                if (r[0] == station && r[1] == n) {
                    best = r;
                }
            }
        }
        return best;
    }

    private int air(int station, int night) {
        int[] r = report(station, night);
        return r[2] * (50 - stns.get(station).height) / 100 + r[3];
    }

    int weather(int station, int night, int pressure, int wet) {
        needStation(station);
        arg(out(night, 0, 359) || out(pressure, 0, 99) || out(wet, 0, 20));
        state(reports.size() == 12);
        reports.add(new int[] {station, night, pressure, wet});
        return air(station, night);
    }

    int plane(int station, int from, int to) {
        needStation(station);
        arg(out(from, 0, 4319) || out(to, 0, 4319) || to < from);
        state(planes.size() == 12);
        planes.add(new int[] {station, from, to});
        return planes.size();
    }

    private int clock(int station, int night) {
        return stns.get(station).clock
                + leaps.stream().filter(l -> l[0] == station && l[1] <= night).mapToInt(l -> l[2]).sum();
    }

    int leap(int station, int night, int more) {
        needStation(station);
        arg(out(night, 0, 359) || out(more, -9, 9));
        state(leaps.size() == 8);
        leaps.add(new int[] {station, night, more});
        return clock(station, night);
    }

    int dust(int mirror, int more) {
        needMirror(mirror);
        arg(out(more, 0, 8));
        Mir m = mirs.get(mirror);
        for (int k = 0; k < more; k++) {
            m.dust += m.dust < 8 ? 1 : 0;
        }
        return m.dust;
    }

    int close(int station) {
        needStation(station);
        Stn s = stns.get(station);
        int before = s.given;
        s.given = s.used.size();
        return before - s.given;
    }

    int give(int station, int nights) {
        needStation(station);
        arg(out(nights, 1, 99));
        return stns.get(station).given += nights;
    }

    private static int modulo(long x, long p) {
        return (int) ((x % p + p) % p);
    }

    int wave(int period, int x) {
        arg(out(period, 4, 400));
        int y = modulo(x, period) * 32 / period;
        if (y >= 24) {
            return y - 32;
        }
        return y >= 8 ? 16 - y : y;
    }

    int range(int ephemeris, int time) {
        needEphemeris(ephemeris);
        arg(out(time, 0, 4319));
        Eph e = ephs.get(ephemeris);
        return e.mean + e.terms.stream().mapToInt(t -> t[1] * wave(t[0], time + t[2])).sum();
    }

    private int place(int station, int time) {
        Stn s = stns.get(station);
        int drift = s.drift * (time / 12) / 30;
        int tide = s.tide * wave(12, time) / 8;
        return s.height + drift + tide;
    }

    int light(int station, int mirror, int time, int ephemeris) {
        needStation(station);
        needMirror(mirror);
        index(ephs.isEmpty());
        if (ephemeris != -1) {
            needEphemeris(ephemeris);
        }
        arg(out(time, 0, 4319));
        int night = time / 12;
        int depth = mirs.get(mirror).depth;
        if (ephemeris == -1) {
            return 2 * (range(0, time) + depth - place(station, time)) + air(station, night) + clock(station, night);
        }
        return 2 * (range(ephemeris, time) + depth - stns.get(station).height) + air(station, night);
    }

    int ofStation(int station, int what) {
        needStation(station);
        arg(out(what, 0, 6));
        Stn s = stns.get(station);
        int[] all = {s.given, s.used.size(), s.shots,
            (int) pnts.stream().filter(p -> p.names[0] == station).count(),
            (int) planes.stream().filter(p -> p[0] == station).count(),
            place(station, 0), air(station, 0)};
        return all[what];
    }

    private static boolean isEclipse(int time) {
        return (time / 12) % 177 == 14 && !out(time % 12, 4, 7);
    }

    private static boolean isFull(int time) {
        return !isEclipse(time) && !out((time / 12) % 29, 13, 15);
    }

    private boolean hasPlane(int station, int time) {
        return planes.stream().anyMatch(p -> p[0] == station && !out(time, p[1], p[2]));
    }

    int sky(int station, int time) {
        needStation(station);
        arg(out(time, 0, 4319));
        if (isFull(time)) {
            return -1;
        }
        if (hasPlane(station, time)) {
            return -2;
        }
        Stn s = stns.get(station);
        return !s.used.contains(time / 12) && s.used.size() == s.given ? -3 : 0;
    }

    int plan(int station, int time) {
        needStation(station);
        arg(out(time, 0, 4319));
        int t = time;
        while (t < 4320 && (isFull(t) || hasPlane(station, t) || stns.get(station).tide * wave(12, t) / 8 != 0)) {
            t++;
        }
        return t == 4320 ? -1 : t;
    }

    int eclipse(int station, int time) {
        needStation(station);
        arg(out(time, 0, 4319));
        int t = time;
        while (t < 4320 && (!isEclipse(t) || hasPlane(station, t))) {
            t++;
        }
        return t == 4320 ? -1 : t;
    }

    int chance(int station, int mirror, int night) {
        needStation(station);
        needMirror(mirror);
        arg(out(night, 0, 359));
        Mir m = mirs.get(mirror);
        int c = stns.get(station).power * m.size * (9 - m.dust) / 12 - report(station, night)[3];
        return c < 0 ? 0 : c;
    }

    int shoot(int station, int mirror, int time, int ephemeris, int pulses, int seed) {
        needStation(station);
        needMirror(mirror);
        needEphemeris(ephemeris);
        arg(out(time, 0, 4319) || out(pulses, 1, 60) || out(seed, 0, 99));
        if (sky(station, time) != 0) {
            missed++;
            return sky(station, time);
        }
        int[] row = new int[200];
        for (int k = 0, ahead = seed; k < row.length; k++) {
            ahead = modulo(31 * ahead + 13, 107);
            row[k] = ahead;
        }
        Ses ses = new Ses();
        ses.names = new int[] {station, mirror, time, ephemeris};
        int chance = chance(station, mirror, time / 12);
        int aim = light(station, mirror, time, -1) - light(station, mirror, time, ephemeris);
        int next = 0;
        for (int pulse = 0; pulse < pulses; pulse++) {
            if (row[next++] % 64 < chance) {
                count(ses, aim + row[next++] % 5 - 2);
            } else if (row[next++] % 3 == 0) {
                count(ses, row[next++] % 41 - 20);
            }
        }
        allSessions.add(ses);
        stns.get(station).used.add(time / 12);
        stns.get(station).shots++;
        return counts(ses);
    }

    private static void count(Ses ses, int bin) {
        if (!out(bin, -20, 20)) {
            ses.bins.merge(bin, 1, Integer::sum);
        }
    }

    private static int counts(Ses ses) {
        return ses.bins.values().stream().mapToInt(k -> k).sum();
    }

    private static int around(Ses ses, int bin) {
        int sum = 0;
        for (int b : new int[] {bin - 1, bin, bin + 1}) {
            sum += ses.bins.getOrDefault(b, 0);
        }
        return sum;
    }

    private static int found(Ses ses) {
        List<Integer> bins = new ArrayList<>();
        for (int b = -20; b <= 20; b++) {
            bins.add(b);
        }
        bins.sort(Comparator.<Integer>comparingInt(b -> -around(ses, b)).thenComparingInt(b -> Math.abs(b))
                .thenComparingInt(b -> b));
        return bins.get(0);
    }

    private static boolean isReturn(Ses ses) {
        int count = around(ses, found(ses));
        return count >= 4 && 4 * count >= counts(ses);
    }

    int ofSession(int session, int what) {
        index(out(session, 0, sessions().size() - 1));
        arg(out(what, 0, 8) && out(what, 20, 60));
        Ses ses = sessions().get(session);
        if (what >= 20) {
            return ses.bins.getOrDefault(what - 40, 0);
        }
        int[] all = {ses.names[0], ses.names[1], ses.names[2], ses.names[3], counts(ses), found(ses),
            around(ses, found(ses)), isReturn(ses) ? 1 : 0, ses.point};
        return all[what];
    }

    int publish(int session) {
        index(out(session, 0, sessions().size() - 1));
        Ses ses = sessions().get(session);
        state(ses.point >= 0 || pnts.size() == 40);
        if (!isReturn(ses)) {
            return -1;
        }
        int bin = found(ses);
        int sum = 0;
        for (int b = bin - 1; b <= bin + 1; b++) {
            sum += b * ses.bins.getOrDefault(b, 0);
        }
        Pnt p = new Pnt();
        p.names = ses.names.clone();
        p.value = 16 * sum / around(ses, bin);
        p.weight = Math.min(9, around(ses, bin));
        p.seen = true;
        pnts.add(p);
        ses.point = pnts.indexOf(p);
        return ses.point;
    }

    int plant(int station, int mirror, int time, int ephemeris, int value, int weight) {
        needStation(station);
        needMirror(mirror);
        needEphemeris(ephemeris);
        arg(out(time, 0, 4319) || out(value, -400, 400) || out(weight, 1, 9));
        state(pnts.size() == 40);
        Pnt p = new Pnt();
        p.names = new int[] {station, mirror, time, ephemeris};
        p.value = value;
        p.weight = weight;
        pnts.add(p);
        return pnts.indexOf(p);
    }

    private static void amended(Pnt p, int value) {
        p.olds.add(p.value);
        p.value = value;
        p.flags.add(1);
    }

    int amend(int point, int value) {
        needPoint(point);
        arg(out(value, -400, 400));
        amended(pnts.get(point), value);
        return pnts.get(point).olds.size() + 1;
    }

    private static int flagsOf(Pnt p) {
        return p.flags.stream().mapToInt(k -> k == 0 ? 1 : k == 1 ? 2 : k == 2 ? 4 : 8).sum();
    }

    int flag(int point, int flag) {
        needPoint(point);
        arg(out(flag, 0, 3));
        pnts.get(point).flags.add(flag);
        return flagsOf(pnts.get(point));
    }

    int archive(int station, int from, int to, int step) {
        needStation(station);
        arg(out(from, 0, 359) || out(to, 0, 359) || to < from || out(step, 2, 64));
        int sum = 0;
        for (Pnt p : pnts) {
            int value = p.value - p.value % step;
            if (p.names[0] == station && !out(p.names[2] / 12, from, to) && value != p.value) {
                amended(p, value);
                sum++;
            }
        }
        return sum;
    }

    private static boolean counts(Pnt p) {
        return !p.flags.contains(0) && !p.flags.contains(3);
    }

    int ofPoint(int point, int what) {
        needPoint(point);
        arg(out(what, 0, 10));
        Pnt p = pnts.get(point);
        int old = p.olds.isEmpty() ? p.value : p.olds.get(p.olds.size() - 1);
        int[] all = {p.names[0], p.names[1], p.names[2], p.names[3], p.value, p.weight, flagsOf(p),
            p.olds.size() + 1, p.seen ? 1 : 0, old, counts(p) ? 1 : 0};
        return all[what];
    }

    private List<Pnt> ordered(int station) {
        List<Pnt> list = new ArrayList<>();
        for (Pnt p : pnts) {
            if (p.names[0] == station && counts(p)) {
                list.add(p);
            }
        }
        list.sort(Comparator.comparingInt(p -> p.names[2]));
        return list;
    }

    private static List<Integer> values(List<Pnt> list) {
        List<Integer> values = new ArrayList<>();
        for (Pnt p : list) {
            values.add(p.value);
        }
        return values;
    }

    private static int middle(List<Integer> values) {
        if (values.isEmpty()) {
            return 0;
        }
        List<Integer> sorted = new ArrayList<>(values);
        Collections.sort(sorted);
        int n = sorted.size();
        return n % 2 == 1 ? sorted.get(n / 2) : sorted.get(n / 2 - 1);
    }

    private static int differences(List<Integer> values, int from) {
        int sum = 0;
        for (int v : values) {
            sum += Math.abs(v - from);
        }
        return sum;
    }

    int median(int station) {
        needStation(station);
        return middle(values(ordered(station)));
    }

    int suspect(int bound, int nth) {
        arg(out(bound, 0, 800) || nth < 0);
        List<Integer> all = new ArrayList<>();
        for (int k = 0; k < pnts.size(); k++) {
            Pnt p = pnts.get(k);
            if (counts(p) && Math.abs(p.value - median(p.names[0])) > bound) {
                all.add(k);
            }
        }
        return nth < all.size() ? all.get(nth) : -1;
    }

    int turned(int station, boolean isLast) {
        needStation(station);
        List<Pnt> list = ordered(station);
        List<Integer> values = values(list);
        int middle = middle(values);
        int least = differences(values, middle);
        int answer = -1;
        for (int from = 0; from < values.size(); from++) {
            for (int to = from + 1; to < values.size(); to++) {
                List<Integer> changed = new ArrayList<>(values);
                for (int k = from; k <= to; k++) {
                    changed.set(k, -values.get(k));
                }
                if (differences(changed, middle) < least) {
                    least = differences(changed, middle);
                    answer = pnts.indexOf(list.get(isLast ? to : from));
                }
            }
        }
        return answer;
    }

    int broken(int station) {
        needStation(station);
        List<Pnt> list = ordered(station);
        List<Integer> values = values(list);
        int least = differences(values, middle(values));
        int answer = -1;
        for (int cut = 1; cut < values.size(); cut++) {
            List<Integer> one = values.subList(0, cut);
            List<Integer> two = values.subList(cut, values.size());
            int sum = differences(one, middle(one)) + differences(two, middle(two));
            if (sum < least) {
                least = sum;
                answer = pnts.indexOf(list.get(cut));
            }
        }
        return answer;
    }

    private List<List<Pnt>> arcsOf(int station) {
        List<List<Pnt>> arcs = new ArrayList<>();
        Pnt ahead = null;
        for (Pnt p : ordered(station)) {
            if (ahead == null || p.names[2] / 12 - ahead.names[2] / 12 > 29) {
                arcs.add(new ArrayList<>());
            }
            arcs.get(arcs.size() - 1).add(p);
            ahead = p;
        }
        return arcs;
    }

    private static int told(List<Pnt> arc) {
        int top = arc.stream().mapToInt(p -> p.weight * p.value).sum();
        return top / arc.stream().mapToInt(p -> p.weight).sum();
    }

    int arc(int station, int arc) {
        needStation(station);
        List<List<Pnt>> arcs = arcsOf(station);
        index(out(arc, -1, arcs.size() - 1));
        if (arc >= 0) {
            return told(arcs.get(arc));
        }
        if (arcs.size() < 2) {
            return 0;
        }
        int last = told(arcs.get(arcs.size() - 1));
        int ahead = told(arcs.get(arcs.size() - 2));
        return last + (last - ahead);
    }

    int arcs(int station) {
        needStation(station);
        return arcsOf(station).size();
    }

    private boolean isUnknown(int ephemeris, int u) {
        if (u <= 3) {
            return u >= 0 && u < stns.size();
        }
        if (u <= 8) {
            return u - 4 < mirs.size();
        }
        return u <= 13 ? u - 9 < ephs.get(ephemeris).terms.size() : u == 14;
    }

    private static List<Integer> members(int set) {
        List<Integer> list = new ArrayList<>();
        for (int u = 0; u < 32; u++) {
            if ((set & 1 << u) != 0) {
                list.add(u);
            }
        }
        return list;
    }

    private boolean areUnknowns(int ephemeris, int set) {
        List<Integer> list = members(set);
        return !out(list.size(), 1, 3) && list.stream().allMatch(u -> isUnknown(ephemeris, u));
    }

    private int partial(int ephemeris, int u, Pnt p) {
        if (u == 14) {
            return p.names[2] / 12 / 10;
        }
        if (u >= 9) {
            int[] t = ephs.get(ephemeris).terms.get(u - 9);
            return 2 * wave(t[0], p.names[2] + t[2]);
        }
        if (u >= 4) {
            return p.names[1] == u - 4 ? 2 : 0;
        }
        return p.names[0] == u ? 1 : 0;
    }

    private List<Pnt> pointsOfFit(int ephemeris, int out) {
        List<Pnt> list = new ArrayList<>();
        for (Pnt p : pnts) {
            if (counts(p) && p.names[3] == ephemeris && p.names[0] != out) {
                list.add(p);
            }
        }
        return list;
    }

    private static BigInteger det(BigInteger[][] m) {
        if (m.length == 0) {
            return BigInteger.ONE;
        }
        BigInteger sum = BigInteger.ZERO;
        for (int c = 0; c < m.length; c++) {
            BigInteger[][] minor = new BigInteger[m.length - 1][m.length - 1];
            for (int i = 1; i < m.length; i++) {
                for (int j = 0, k = 0; j < m.length; j++) {
                    if (j != c) {
                        minor[i - 1][k++] = m[i][j];
                    }
                }
            }
            BigInteger part = m[0][c].multiply(det(minor));
            sum = c % 2 == 0 ? sum.add(part) : sum.subtract(part);
        }
        return sum;
    }

    /** What is FITTED for each UNKNOWN of the set; null if it can not be told. */
    private Map<Integer, Integer> fitted(int ephemeris, int set, int out) {
        List<Integer> us = members(set);
        int n = us.size();
        BigInteger[][] normal = new BigInteger[n][n];
        BigInteger[] right = new BigInteger[n];
        List<Pnt> list = pointsOfFit(ephemeris, out);
        for (int i = 0; i < n; i++) {
            int u = us.get(i);
            for (int j = 0; j < n; j++) {
                int v = us.get(j);
                normal[i][j] = BigInteger.valueOf(list.stream()
                        .mapToLong(p -> p.weight * partial(ephemeris, u, p) * partial(ephemeris, v, p)).sum());
            }
            right[i] = BigInteger.valueOf(list.stream()
                    .mapToLong(p -> p.weight * partial(ephemeris, u, p) * p.value).sum());
        }
        BigInteger whole = det(normal);
        if (whole.signum() == 0) {
            return null;
        }
        Map<Integer, Integer> answers = new LinkedHashMap<>();
        for (int k = 0; k < n; k++) {
            BigInteger[][] put = new BigInteger[n][n];
            for (int i = 0; i < n; i++) {
                put[i] = normal[i].clone();
                put[i][k] = right[i];
            }
            BigInteger f = det(put).multiply(BigInteger.valueOf(4)).divide(whole);
            f = f.min(BigInteger.valueOf(20000)).max(BigInteger.valueOf(-20000));
            answers.put(us.get(k), f.intValueExact());
        }
        return answers;
    }

    int fit(int ephemeris, int unknowns, int out, int what) {
        needEphemeris(ephemeris);
        if (out != -1) {
            needStation(out);
        }
        arg(!areUnknowns(ephemeris, unknowns) || out(what, 0, 4));
        arg(what < 3 && members(unknowns).size() <= what);
        Map<Integer, Integer> answers = fitted(ephemeris, unknowns, out);
        if (what == 3) {
            return pointsOfFit(ephemeris, out).size();
        }
        if (what == 4) {
            return answers == null ? 0 : 1;
        }
        return answers == null ? 0 : answers.get(members(unknowns).get(what));
    }

    private int rest(int ephemeris, int unknowns, Pnt p) {
        Map<Integer, Integer> answers = fitted(ephemeris, unknowns, -1);
        int left = p.value * 4;
        if (answers != null) {
            for (Map.Entry<Integer, Integer> e : answers.entrySet()) {
                left -= e.getValue() * partial(ephemeris, e.getKey(), p);
            }
        }
        return left;
    }

    int left(int ephemeris, int unknowns, int point) {
        needEphemeris(ephemeris);
        needPoint(point);
        arg(!areUnknowns(ephemeris, unknowns));
        return rest(ephemeris, unknowns, pnts.get(point));
    }

    long square(int ephemeris, int unknowns) {
        needEphemeris(ephemeris);
        arg(unknowns != 0 && !areUnknowns(ephemeris, unknowns));
        long sum = 0;
        for (Pnt p : pointsOfFit(ephemeris, -1)) {
            long left = rest(ephemeris, unknowns, p);
            sum += p.weight * left * left;
        }
        return sum;
    }

    boolean claim(int ephemeris, int unknown, int bound) {
        needEphemeris(ephemeris);
        arg(!isUnknown(ephemeris, unknown) || out(bound, 1, 4000));
        trials++;
        List<Integer> outs = new ArrayList<>();
        outs.add(-1);
        for (Pnt p : pointsOfFit(ephemeris, -1)) {
            if (!outs.contains(p.names[0])) {
                outs.add(p.names[0]);
            }
        }
        boolean above = true;
        boolean below = true;
        for (int o : outs) {
            Map<Integer, Integer> answers = fitted(ephemeris, 1 << unknown, o);
            if (answers == null) {
                return false;
            }
            above &= answers.get(unknown) >= bound;
            below &= answers.get(unknown) <= -bound;
        }
        return above || below;
    }

    int worst(int ephemeris, int unknowns) {
        needEphemeris(ephemeris);
        arg(!areUnknowns(ephemeris, unknowns));
        return pointsOfFit(ephemeris, -1).stream()
                .sorted(Comparator.comparingInt(p -> -Math.abs(rest(ephemeris, unknowns, p))))
                .mapToInt(pnts::indexOf).findFirst().orElse(-1);
    }

    int bestUnknown(int ephemeris) {
        needEphemeris(ephemeris);
        int best = -1;
        for (int u = 14; u >= 0; u--) {
            if (isUnknown(ephemeris, u) && fitted(ephemeris, 1 << u, -1) != null
                    && (best < 0 || square(ephemeris, 1 << u) <= square(ephemeris, 1 << best))) {
                best = u;
            }
        }
        return best;
    }

    int improve(int ephemeris, int unknowns) {
        needEphemeris(ephemeris);
        arg(!areUnknowns(ephemeris, unknowns));
        Map<Integer, Integer> answers = fitted(ephemeris, unknowns, -1);
        state(ephs.size() == 4 || answers == null);
        Eph better = new Eph();
        better.mean = ephs.get(ephemeris).mean;
        for (int[] t : ephs.get(ephemeris).terms) {
            int more = answers.getOrDefault(9 + better.terms.size(), 0) / 64;
            better.terms.add(new int[] {t[0], Math.min(50, Math.max(-50, t[1] + more)), t[2]});
        }
        ephs.add(better);
        return ephs.size() - 1;
    }

    boolean search(int mirror, int tile, int seed) {
        needMirror(mirror);
        index(out(tile, 0, 15));
        arg(out(seed, 0, 99));
        Mir m = mirs.get(mirror);
        int first = (31 * seed + 13) % 107;
        if ((m.depth + 99) / 13 == tile && first % 64 < 7 * m.size) {
            m.found = true;
            return true;
        }
        beliefs[tile] = beliefs[tile] * (64 - 7 * m.size) / 64;
        return false;
    }

    int hint(int tile, int times) {
        index(out(tile, 0, 15));
        arg(out(times, 0, 9));
        beliefs[tile] = Math.min(4096, times * beliefs[tile]);
        return beliefs[tile];
    }

    int belief(int tile) {
        index(out(tile, -1, 15));
        if (tile >= 0) {
            return beliefs[tile];
        }
        int best = 15;
        for (int k = 15; k >= 0; k--) {
            best = beliefs[k] >= beliefs[best] ? k : best;
        }
        return best;
    }

    int tie(int one, int other, int length) {
        needMirror(one);
        needMirror(other);
        arg(one == other || out(length, -300, 300));
        state(ties.size() == 10);
        ties.add(new int[] {one, other, length});
        return ties.size();
    }

    /** The length from a to b by the first TIE of both; null without one. */
    private Integer length(int a, int b) {
        for (int[] t : ties) {
            if (t[0] == a && t[1] == b) {
                return t[2];
            }
            if (t[0] == b && t[1] == a) {
                return -t[2];
            }
        }
        return null;
    }

    private List<Integer> misclosures() {
        List<Integer> all = new ArrayList<>();
        int n = mirs.size();
        for (int code = 0; code < n * n * n; code++) {
            int a = code / n / n;
            int b = code / n % n;
            int c = code % n;
            if (a < b && b < c && length(a, b) != null && length(b, c) != null && length(c, a) != null) {
                all.add(Math.abs(length(a, b) + length(b, c) + length(c, a)));
            }
        }
        return all;
    }

    private void reach(int mirror, Set<Integer> reached) {
        if (reached.add(mirror)) {
            for (int other = 0; other < mirs.size(); other++) {
                if (length(mirror, other) != null) {
                    reach(other, reached);
                }
            }
        }
    }

    int map(int what) {
        arg(out(what, 0, 3));
        if (what == 0) {
            return misclosures().stream().mapToInt(k -> k).max().orElse(0);
        }
        if (what == 1) {
            return misclosures().size();
        }
        if (what == 2) {
            Set<Integer> reached = new HashSet<>();
            if (!mirs.isEmpty()) {
                reach(0, reached);
            }
            return reached.size();
        }
        return ties.stream().mapToInt(t -> Math.abs(t[2] - (mirs.get(t[1]).depth - mirs.get(t[0]).depth))).sum();
    }

    int many(int what) {
        arg(out(what, 0, 12));
        long[] all = {ephs.size(), stns.size(), mirs.size(), sessions().size(), allSessions.size(), missed,
            pnts.size(), pnts.stream().filter(PlainMoon::counts).count(), pnts.stream().filter(p -> !p.seen).count(),
            trials, mirs.stream().filter(m -> m.found).count(), ties.size(),
            ephs.stream().mapToInt(e -> e.terms.size()).sum()};
        return (int) all[what];
    }

    String tell(int point) {
        needPoint(point);
        Pnt p = pnts.get(point);
        return String.format("%d of %d at %d.%d by %d: %d (%d) v%d%s%s", point, p.names[0], p.names[2] / 12,
                p.names[2] % 12, p.names[3], p.value, p.weight, p.olds.size() + 1,
                p.flags.isEmpty() ? "" : " flagged", p.seen ? "" : " unseen");
    }

    boolean isSound() {
        return stns.stream().allMatch(s -> s.used.size() <= s.given)
                && pnts.stream().allMatch(p -> p.olds.isEmpty() || p.flags.contains(1))
                && sessions().stream().allMatch(s -> counts(s) <= 60)
                && pnts.stream().filter(p -> p.seen).count() <= allSessions.size();
    }

    int knock() {
        return ++knocks;
    }

    long digest() {
        List<Long> v = new ArrayList<>();
        for (int k = 0; k <= 12; k++) {
            v.add((long) many(k));
        }
        for (int e = 0; e < ephs.size(); e++) {
            v.addAll(List.of((long) range(e, 0), (long) range(e, 1234), square(e, 0), (long) bestUnknown(e)));
        }
        for (int s = 0; s < stns.size(); s++) {
            for (int k = 0; k <= 6; k++) {
                v.add((long) ofStation(s, k));
            }
            v.addAll(List.of((long) median(s), (long) turned(s, false), (long) broken(s), (long) arcs(s),
                    (long) arc(s, -1)));
        }
        for (int s = 0; s < sessions().size(); s++) {
            for (int k = 0; k <= 8; k++) {
                v.add((long) ofSession(s, k));
            }
        }
        for (int p = 0; p < pnts.size(); p++) {
            for (int k = 0; k <= 10; k++) {
                v.add((long) ofPoint(p, k));
            }
        }
        for (int k = 0; k <= 15; k++) {
            v.add((long) belief(k));
        }
        v.add((long) belief(-1));
        for (int k = 0; k <= 3; k++) {
            v.add((long) map(k));
        }
        v.add(isSound() ? 1L : 0L);
        BigInteger d = BigInteger.valueOf(58276);
        for (long number : v) {
            d = d.multiply(BigInteger.valueOf(31)).add(BigInteger.valueOf(number));
        }
        return d.longValue();
    }
}
