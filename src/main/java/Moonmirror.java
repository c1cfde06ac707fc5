import java.util.ArrayList;

/** A sky of stations, mirrors and points, as ../shared/DOC.md promises it. */
public final class Moonmirror {
    private static final int NONE = -1;
    private static final int NIGHTS = 360;
    private static final int SLOTS = 12;
    private static final int TIMES = NIGHTS * SLOTS;

    private static final int MOST_EPHEMERIDES = 4;
    private static final int MOST_TERMS = 5;
    private static final int MOST_STATIONS = 4;
    private static final int MOST_MIRRORS = 5;
    private static final int MOST_REPORTS = 12;
    private static final int MOST_LEAPS = 8;
    private static final int MOST_PLANES = 12;
    private static final int MOST_SESSIONS = 8;
    private static final int MOST_POINTS = 40;
    private static final int MOST_TIES = 10;

    private static final int LEAST_PERIOD = 4;
    private static final int MOST_PERIOD = 400;
    private static final int MOST_AMPLITUDE = 50;
    private static final int MOST_DUST = 8;
    private static final int MOST_PULSES = 60;
    private static final int MOST_SEED = 99;
    private static final int MOST_VALUE = 400;

    private static final int IS_FULL = -1;
    private static final int IS_CROSSED = -2;
    private static final int IS_NOT_GIVEN = -3;

    private static final int LAST_BIN = 20;
    private static final int BINS = 2 * LAST_BIN + 1;
    private static final int FIRST_BIN_ASKED = 20;
    private static final int BIN_ASKED_FOR_0 = 40;

    private static final int FIRST_MIRROR_UNKNOWN = 4;
    private static final int FIRST_TERM_UNKNOWN = 9;
    private static final int DRIFT_UNKNOWN = 14;
    private static final int MOST_UNKNOWNS = 3;

    private static final int TILES = 16;
    private static final int TILE_WIDTH = 13;
    private static final int FIRST_BELIEF = 64;
    private static final int MOST_BELIEF = 4096;

    private final ArrayList<Ephemeris> ephemerides;
    private final ArrayList<Station> stations;
    private final ArrayList<Mirror> mirrors;
    private final ArrayList<Session> sessions;
    private final ArrayList<Point> points;
    private final ArrayList<Tie> ties;
    private final Almanac almanac;
    private final Series series;
    private final Fit solver;
    private final int[] beliefs;
    private final int[] medians;
    private int shotsThatCame;
    private int shotsThatDidNot;
    private int trials;
    private int refused;

    public Moonmirror() {
        ephemerides = new ArrayList<Ephemeris>();
        stations = new ArrayList<Station>();
        mirrors = new ArrayList<Mirror>();
        sessions = new ArrayList<Session>();
        points = new ArrayList<Point>();
        ties = new ArrayList<Tie>();
        almanac = new Almanac();
        series = new Series();
        solver = new Fit();
        beliefs = new int[TILES];
        medians = new int[MOST_STATIONS];
        for (int tile = 0; tile < beliefs.length; tile++) {
            beliefs[tile] = FIRST_BELIEF;
        }
    }

    // ---- what there is

    public int ephemeris(int mean) throws IllegalArgumentException, IllegalStateException {
        if (mean < 0 || mean > 9999) {
            throw new IllegalArgumentException("MEAN is 0 to 9999");
        }
        if (ephemerides.size() >= MOST_EPHEMERIDES) {
            throw new IllegalStateException("there are 4 EPHEMERIDES");
        }
        ephemerides.add(new Ephemeris(ephemerides.size(), mean));
        return ephemerides.size() - 1;
    }

    public int term(int ephemeris, int period, int amplitude, int phase)
            throws IndexOutOfBoundsException, IllegalArgumentException, IllegalStateException {
        Ephemeris one = ephemerisOf(ephemeris);
        if (!isPeriod(period) || !isAmplitude(amplitude) || phase < 0 || phase > 399) {
            throw new IllegalArgumentException("no such PERIOD, AMPLITUDE or PHASE");
        }
        if (one.terms.size() >= MOST_TERMS || isNamed(ephemeris)) {
            throw new IllegalStateException("it has 5 TERMS, or a POINT names it");
        }
        one.terms.add(new Term(period, amplitude, phase));
        return one.terms.size() - 1;
    }

    public int station(int height, int tide, int drift, int clock, int power)
            throws IllegalArgumentException, IllegalStateException {
        boolean isPlace = height >= 0 && height <= 40 && tide >= 0 && tide <= 9 && drift >= -9 && drift <= 9;
        if (!isPlace || clock < -9 || clock > 9 || power < 1 || power > 9) {
            throw new IllegalArgumentException("no such HEIGHT, TIDE, DRIFT, CLOCK or POWER");
        }
        if (stations.size() >= MOST_STATIONS) {
            throw new IllegalStateException("there are 4 STATIONS");
        }
        stations.add(new Station(stations.size(), height, tide, drift, clock, power));
        return stations.size() - 1;
    }

    public int mirror(int depth, int size, int dust) throws IllegalArgumentException, IllegalStateException {
        if (depth < -99 || depth > 99 || size < 1 || size > 9 || dust < 0 || dust > MOST_DUST) {
            throw new IllegalArgumentException("no such DEPTH, SIZE or DUST");
        }
        if (mirrors.size() >= MOST_MIRRORS) {
            throw new IllegalStateException("there are 5 MIRRORS");
        }
        mirrors.add(new Mirror(depth, size, dust));
        return mirrors.size() - 1;
    }

    public int weather(int station, int night, int pressure, int wet)
            throws IndexOutOfBoundsException, IllegalArgumentException, IllegalStateException {
        Station one = stationOf(station);
        if (!isNight(night) || pressure < 0 || pressure > 99 || wet < 0 || wet > 20) {
            throw new IllegalArgumentException("no such NIGHT, PRESSURE or WET");
        }
        if (almanac.reports >= MOST_REPORTS) {
            throw new IllegalStateException("there are 12 reports");
        }
        almanac.addReport(station, night, pressure, wet);
        return airAt(one, night);
    }

    public int plane(int station, int from, int to)
            throws IndexOutOfBoundsException, IllegalArgumentException, IllegalStateException {
        stationOf(station);
        if (!isTime(from) || !isTime(to) || to < from) {
            throw new IllegalArgumentException("no such TIME, or to is ahead of from");
        }
        if (almanac.planes >= MOST_PLANES) {
            throw new IllegalStateException("there are 12 PLANES");
        }
        almanac.addPlane(station, from, to);
        return almanac.planes;
    }

    public int leap(int station, int night, int more)
            throws IndexOutOfBoundsException, IllegalArgumentException, IllegalStateException {
        Station one = stationOf(station);
        if (!isNight(night) || more < -9 || more > 9) {
            throw new IllegalArgumentException("no such NIGHT, or a LEAP that is too wide");
        }
        if (almanac.leaps >= MOST_LEAPS) {
            throw new IllegalStateException("there are 8 LEAPS");
        }
        almanac.addLeap(station, night, more);
        return clockAt(one, night);
    }

    public int dust(int mirror, int more) throws IndexOutOfBoundsException, IllegalArgumentException {
        Mirror one = mirrorOf(mirror);
        if (more < 0 || more > MOST_DUST) {
            throw new IllegalArgumentException("DUST is 0 to 8");
        }
        one.dust = Math.min(MOST_DUST, one.dust + more);
        return one.dust;
    }

    public int close(int station) throws IndexOutOfBoundsException {
        Station one = stationOf(station);
        int lost = one.given - one.used;
        one.given = one.used;
        return lost;
    }

    public int give(int station, int nights) throws IndexOutOfBoundsException, IllegalArgumentException {
        Station one = stationOf(station);
        if (nights < 1 || nights > 99) {
            throw new IllegalArgumentException("1 to 99 NIGHTS are given");
        }
        one.given += nights;
        return one.given;
    }

    public int wave(int period, int x) throws IllegalArgumentException {
        if (!isPeriod(period)) {
            throw new IllegalArgumentException("PERIOD is 4 to 400");
        }
        return waveOf(period, x);
    }

    public int range(int ephemeris, int time) throws IndexOutOfBoundsException, IllegalArgumentException {
        Ephemeris one = ephemerisOf(ephemeris);
        if (!isTime(time)) {
            throw new IllegalArgumentException("no TIME");
        }
        return one.rangeAt(time);
    }

    public int light(int station, int mirror, int time, int ephemeris)
            throws IndexOutOfBoundsException, IllegalArgumentException {
        Station from = stationOf(station);
        Mirror to = mirrorOf(mirror);
        Ephemeris by = ephemerisOf(ephemeris == NONE ? 0 : ephemeris);
        if (!isTime(time)) {
            throw new IllegalArgumentException("no TIME");
        }
        return ephemeris == NONE ? trueLight(from, to, time) : forecast(from, to, time, by);
    }

    public int ofStation(int station, int what) throws IndexOutOfBoundsException, IllegalArgumentException {
        Station one = stationOf(station);
        switch (what) {
            case 0:
                return one.given;
            case 1:
                return one.used;
            case 2:
                return one.shots;
            case 3:
                return pointsOf(station);
            case 4:
                return almanac.planesOver(station);
            case 5:
                return one.placeAt(0);
            case 6:
                return airAt(one, 0);
            default:
                throw new IllegalArgumentException("what is 0 to 6");
        }
    }

    // ---- the sky, shots, sessions

    public int sky(int station, int time) throws IndexOutOfBoundsException, IllegalArgumentException {
        Station one = stationOf(station);
        if (!isTime(time)) {
            throw new IllegalArgumentException("no TIME");
        }
        return hindrance(one, time);
    }

    public int plan(int station, int time) throws IndexOutOfBoundsException, IllegalArgumentException {
        Station one = stationOf(station);
        if (!isTime(time)) {
            throw new IllegalArgumentException("no TIME");
        }
        for (int then = time; then < TIMES; then++) {
            if (one.tideAt(then) == 0 && isClear(one, then)) {
                return then;
            }
        }
        return NONE;
    }

    public int eclipse(int station, int time) throws IndexOutOfBoundsException, IllegalArgumentException {
        Station one = stationOf(station);
        if (!isTime(time)) {
            throw new IllegalArgumentException("no TIME");
        }
        for (int then = time; then < TIMES; then++) {
            if (isEclipse(then) && isClear(one, then)) {
                return then;
            }
        }
        return NONE;
    }

    public int chance(int station, int mirror, int night)
            throws IndexOutOfBoundsException, IllegalArgumentException {
        Station from = stationOf(station);
        Mirror to = mirrorOf(mirror);
        if (!isNight(night)) {
            throw new IllegalArgumentException("no NIGHT");
        }
        return chanceOf(from, to, night);
    }

    public int shoot(int station, int mirror, int time, int ephemeris, int pulses, int seed)
            throws IndexOutOfBoundsException, IllegalArgumentException {
        Station from = stationOf(station);
        Mirror to = mirrorOf(mirror);
        Ephemeris by = ephemerisOf(ephemeris);
        if (!isTime(time) || pulses < 1 || pulses > MOST_PULSES || !isSeed(seed)) {
            throw new IllegalArgumentException("no such TIME, PULSES or seed");
        }
        int met = hindrance(from, time);
        if (met < 0) {
            shotsThatDidNot++;
            return met;
        }
        Session session = new Session(station, mirror, time, ephemeris);
        int aim = trueLight(from, to, time) - forecast(from, to, time, by);
        session.fire(chanceOf(from, to, time / SLOTS), aim, pulses, new Row(seed));
        from.fireIn(time / SLOTS);
        shotsThatCame++;
        keep(session);
        return session.counted;
    }

    public int ofSession(int session, int what) throws IndexOutOfBoundsException, IllegalArgumentException {
        Session one = sessionOf(session);
        if (what >= FIRST_BIN_ASKED && what < FIRST_BIN_ASKED + BINS) {
            return one.countIn(what - BIN_ASKED_FOR_0);
        }
        switch (what) {
            case 0:
                return one.station;
            case 1:
                return one.mirror;
            case 2:
                return one.time;
            case 3:
                return one.ephemeris;
            case 4:
                return one.counted;
            case 5:
                return one.found;
            case 6:
                return one.countFound;
            case 7:
                return one.isReturn() ? 1 : 0;
            case 8:
                return one.point;
            default:
                throw new IllegalArgumentException("what is 0 to 8, or 20 to 60");
        }
    }

    // ---- points

    public int publish(int session) throws IndexOutOfBoundsException, IllegalStateException {
        Session one = sessionOf(session);
        if (one.point != NONE || points.size() >= MOST_POINTS) {
            throw new IllegalStateException("it was PUBLISHED, or there are 40 POINTS");
        }
        if (!one.isReturn()) {
            return NONE;
        }
        int number = points.size();
        Point point = new Point(number, one.station, one.mirror, one.time, one.ephemeris,
                one.valueFound(), Math.min(9, one.countFound));
        point.isSeen = true;
        points.add(point);
        one.point = number;
        return number;
    }

    public int plant(int station, int mirror, int time, int ephemeris, int value, int weight)
            throws IndexOutOfBoundsException, IllegalArgumentException, IllegalStateException {
        stationOf(station);
        mirrorOf(mirror);
        ephemerisOf(ephemeris);
        if (!isTime(time) || !isValue(value) || weight < 1 || weight > 9) {
            throw new IllegalArgumentException("no such TIME, VALUE or WEIGHT");
        }
        if (points.size() >= MOST_POINTS) {
            throw new IllegalStateException("there are 40 POINTS");
        }
        points.add(new Point(points.size(), station, mirror, time, ephemeris, value, weight));
        return points.size() - 1;
    }

    public int amend(int point, int value) throws IndexOutOfBoundsException, IllegalArgumentException {
        Point one = pointOf(point);
        if (!isValue(value)) {
            throw new IllegalArgumentException("VALUE is -400 to 400");
        }
        one.becomes(value);
        return one.version;
    }

    public int flag(int point, int flag) throws IndexOutOfBoundsException, IllegalArgumentException {
        Point one = pointOf(point);
        if (flag < 0 || flag > 3) {
            throw new IllegalArgumentException("FLAGS are 0 to 3");
        }
        one.flags |= 1 << flag;
        return one.flags;
    }

    public int archive(int station, int from, int to, int step)
            throws IndexOutOfBoundsException, IllegalArgumentException {
        stationOf(station);
        if (!isNight(from) || !isNight(to) || to < from || step < 2 || step > 64) {
            throw new IllegalArgumentException("no such NIGHTS, or step");
        }
        int amended = 0;
        for (int number = 0; number < points.size(); number++) {
            Point one = points.get(number);
            int rounded = one.value / step * step;
            boolean isAsked = one.station == station && one.nightOf() >= from && one.nightOf() <= to;
            if (isAsked && rounded != one.value) {
                one.becomes(rounded);
                amended++;
            }
        }
        return amended;
    }

    public int ofPoint(int point, int what) throws IndexOutOfBoundsException, IllegalArgumentException {
        Point one = pointOf(point);
        switch (what) {
            case 0:
                return one.station;
            case 1:
                return one.mirror;
            case 2:
                return one.time;
            case 3:
                return one.ephemeris;
            case 4:
                return one.value;
            case 5:
                return one.weight;
            case 6:
                return one.flags;
            case 7:
                return one.version;
            case 8:
                return one.isSeen ? 1 : 0;
            case 9:
                return one.version > 1 ? one.old : one.value;
            case 10:
                return one.isCounting() ? 1 : 0;
            default:
                throw new IllegalArgumentException("what is 0 to 10");
        }
    }

    public int median(int station) throws IndexOutOfBoundsException {
        return seriesOf(station).middle();
    }

    public int suspect(int bound, int nth) throws IllegalArgumentException {
        if (bound < 0 || bound > 800 || nth < 0) {
            throw new IllegalArgumentException("no such bound, or place");
        }
        for (int station = 0; station < stations.size() && station < medians.length; station++) {
            medians[station] = seriesOf(station).middle();
        }
        int ahead = 0;
        for (int number = 0; number < points.size(); number++) {
            if (isSuspect(points.get(number), bound)) {
                if (ahead == nth) {
                    return number;
                }
                ahead++;
            }
        }
        return NONE;
    }

    public int turned(int station, boolean isLast) throws IndexOutOfBoundsException {
        Series one = seriesOf(station);
        one.findTurn();
        return one.numberAt(isLast ? one.turnLast : one.turnFirst);
    }

    public int broken(int station) throws IndexOutOfBoundsException {
        Series one = seriesOf(station);
        return one.numberAt(one.breakPlace());
    }

    public int arc(int station, int arc) throws IndexOutOfBoundsException {
        Series one = seriesOf(station);
        if (arc < NONE || arc >= one.countArcs()) {
            throw new IndexOutOfBoundsException("no such ARC");
        }
        return arc == NONE ? one.foretold() : one.toldByArc(arc);
    }

    public int arcs(int station) throws IndexOutOfBoundsException {
        return seriesOf(station).countArcs();
    }

    // ---- fits

    public int fit(int ephemeris, int unknowns, int out, int what)
            throws IndexOutOfBoundsException, IllegalArgumentException {
        Ephemeris by = ephemerisOf(ephemeris);
        if (out != NONE) {
            stationOf(out);
        }
        if (!areUnknowns(by, unknowns) || what < 0 || what > 4) {
            throw new IllegalArgumentException("no such UNKNOWNS, or what is not 0 to 4");
        }
        if (what < MOST_UNKNOWNS && what >= Integer.bitCount(unknowns)) {
            throw new IllegalArgumentException("there are not so many UNKNOWNS");
        }
        solver.solve(by, unknowns, out, points);
        switch (what) {
            case 3:
                return solver.size;
            case 4:
                return solver.isTold ? 1 : 0;
            default:
                return solver.fittedAt(what);
        }
    }

    public int left(int ephemeris, int unknowns, int point)
            throws IndexOutOfBoundsException, IllegalArgumentException {
        Ephemeris by = ephemerisOf(ephemeris);
        Point one = pointOf(point);
        if (!areUnknowns(by, unknowns)) {
            throw new IllegalArgumentException("no such UNKNOWNS");
        }
        solver.solve(by, unknowns, NONE, points);
        return solver.leftAt(one);
    }

    public long square(int ephemeris, int unknowns) throws IndexOutOfBoundsException, IllegalArgumentException {
        Ephemeris by = ephemerisOf(ephemeris);
        if (unknowns != 0 && !areUnknowns(by, unknowns)) {
            throw new IllegalArgumentException("no such UNKNOWNS");
        }
        solver.solve(by, unknowns, NONE, points);
        return solver.squareOf(points);
    }

    public boolean claim(int ephemeris, int unknown, int bound)
            throws IndexOutOfBoundsException, IllegalArgumentException {
        Ephemeris by = ephemerisOf(ephemeris);
        if (!isUnknown(by, unknown) || bound < 1 || bound > 4000) {
            throw new IllegalArgumentException("no such UNKNOWN, or bound");
        }
        trials++;
        int set = 1 << unknown;
        solver.solve(by, set, NONE, points);
        int whole = solver.fittedAt(0);
        boolean isStanding = Math.abs(whole) >= bound;
        // A STATION without a POINT of the FIT leaves the FIT as it is, so all may be left out in turn.
        for (int out = 0; isStanding && out < stations.size(); out++) {
            solver.solve(by, set, out, points);
            int rest = solver.fittedAt(0);
            isStanding = Math.abs(rest) >= bound && (rest > 0) == (whole > 0);
        }
        return isStanding;
    }

    public int worst(int ephemeris, int unknowns) throws IndexOutOfBoundsException, IllegalArgumentException {
        Ephemeris by = ephemerisOf(ephemeris);
        if (!areUnknowns(by, unknowns)) {
            throw new IllegalArgumentException("no such UNKNOWNS");
        }
        solver.solve(by, unknowns, NONE, points);
        return solver.worstOf(points);
    }

    public int bestUnknown(int ephemeris) throws IndexOutOfBoundsException {
        Ephemeris by = ephemerisOf(ephemeris);
        int best = NONE;
        long least = 0;
        for (int unknown = 0; unknown <= DRIFT_UNKNOWN; unknown++) {
            if (isUnknown(by, unknown)) {
                solver.solve(by, 1 << unknown, NONE, points);
                long square = solver.squareOf(points);
                if (solver.isTold && (best == NONE || square < least)) {
                    best = unknown;
                    least = square;
                }
            }
        }
        return best;
    }

    public int improve(int ephemeris, int unknowns)
            throws IndexOutOfBoundsException, IllegalArgumentException, IllegalStateException {
        Ephemeris by = ephemerisOf(ephemeris);
        if (!areUnknowns(by, unknowns)) {
            throw new IllegalArgumentException("no such UNKNOWNS");
        }
        solver.solve(by, unknowns, NONE, points);
        if (ephemerides.size() >= MOST_EPHEMERIDES || !solver.isTold) {
            throw new IllegalStateException("there are 4 EPHEMERIDES, or the FIT can not be told");
        }
        Ephemeris better = new Ephemeris(ephemerides.size(), by.mean);
        for (int number = 0; number < by.terms.size(); number++) {
            Term one = by.terms.get(number);
            int more = solver.fittedOf(FIRST_TERM_UNKNOWN + number) / 64;
            int amplitude = held(one.amplitude + more, -MOST_AMPLITUDE, MOST_AMPLITUDE);
            better.terms.add(new Term(one.period, amplitude, one.phase));
        }
        ephemerides.add(better);
        return better.number;
    }

    // ---- a mirror that was lost, ties

    public boolean search(int mirror, int tile, int seed)
            throws IndexOutOfBoundsException, IllegalArgumentException {
        Mirror one = mirrorOf(mirror);
        if (tile < 0 || tile >= beliefs.length) {
            throw new IndexOutOfBoundsException("TILES are 0 to 15");
        }
        if (!isSeed(seed)) {
            throw new IllegalArgumentException("a seed is 0 to 99");
        }
        int seen = 7 * one.size;
        if ((one.depth + 99) / TILE_WIDTH == tile && new Row(seed).drawn() % 64 < seen) {
            one.isFound = true;
            return true;
        }
        beliefs[tile] = beliefs[tile] * (64 - seen) / 64;
        return false;
    }

    public int hint(int tile, int times) throws IndexOutOfBoundsException, IllegalArgumentException {
        if (tile < 0 || tile >= beliefs.length) {
            throw new IndexOutOfBoundsException("TILES are 0 to 15");
        }
        if (times < 0 || times > 9) {
            throw new IllegalArgumentException("times is 0 to 9");
        }
        beliefs[tile] = Math.min(MOST_BELIEF, beliefs[tile] * times);
        return beliefs[tile];
    }

    public int belief(int tile) throws IndexOutOfBoundsException {
        if (tile == NONE) {
            return nextTile();
        }
        if (tile < 0 || tile >= beliefs.length) {
            throw new IndexOutOfBoundsException("TILES are 0 to 15");
        }
        return beliefs[tile];
    }

    public int tie(int one, int other, int length)
            throws IndexOutOfBoundsException, IllegalArgumentException, IllegalStateException {
        mirrorOf(one);
        mirrorOf(other);
        if (one == other || length < -300 || length > 300) {
            throw new IllegalArgumentException("both are the same, or length is not -300 to 300");
        }
        if (ties.size() >= MOST_TIES) {
            throw new IllegalStateException("there are 10 TIES");
        }
        ties.add(new Tie(one, other, length));
        return ties.size();
    }

    public int map(int what) throws IllegalArgumentException {
        switch (what) {
            case 0:
                return ringsOrMisclosure(false);
            case 1:
                return ringsOrMisclosure(true);
            case 2:
                return tiedToFirst();
            case 3:
                return tiesOff();
            default:
                throw new IllegalArgumentException("what is 0 to 3");
        }
    }

    // ---- all of it

    public int many(int what) throws IllegalArgumentException {
        switch (what) {
            case 0:
                return ephemerides.size();
            case 1:
                return stations.size();
            case 2:
                return mirrors.size();
            case 3:
                return sessions.size();
            case 4:
                return shotsThatCame;
            case 5:
                return shotsThatDidNot;
            case 6:
                return points.size();
            case 7:
                return countingPoints();
            case 8:
                return points.size() - seenPoints();
            case 9:
                return trials;
            case 10:
                return mirrorsFound();
            case 11:
                return ties.size();
            case 12:
                return allTerms();
            default:
                throw new IllegalArgumentException("what is 0 to 12");
        }
    }

    public String tell(int point) throws IndexOutOfBoundsException {
        Point one = pointOf(point);
        StringBuilder line = new StringBuilder();
        line.append(point).append(" of ").append(one.station);
        line.append(" at ").append(one.nightOf()).append('.').append(one.time % SLOTS);
        line.append(" by ").append(one.ephemeris).append(": ").append(one.value);
        line.append(" (").append(one.weight).append(") v").append(one.version);
        if (one.flags != 0) {
            line.append(" flagged");
        }
        if (!one.isSeen) {
            line.append(" unseen");
        }
        return line.toString();
    }

    public boolean isSound() {
        for (int number = 0; number < stations.size(); number++) {
            Station one = stations.get(number);
            if (one.used > one.given) {
                return false;
            }
        }
        for (int number = 0; number < points.size(); number++) {
            Point one = points.get(number);
            if (one.version > 1 && (one.flags & 2) == 0) {
                return false;
            }
        }
        for (int number = 0; number < sessions.size(); number++) {
            if (sessions.get(number).counted > MOST_PULSES) {
                return false;
            }
        }
        return seenPoints() <= shotsThatCame;
    }

    public int knock() {
        refused++;
        return refused;
    }

    public long digest() {
        long d = 58276;
        for (int what = 0; what <= 12; what++) {
            d = d * 31 + many(what);
        }
        d = withEphemerides(d);
        d = withStations(d);
        d = withSessions(d);
        d = withPoints(d);
        for (int tile = 0; tile < TILES; tile++) {
            d = d * 31 + belief(tile);
        }
        d = d * 31 + belief(NONE);
        for (int what = 0; what <= 3; what++) {
            d = d * 31 + map(what);
        }
        return d * 31 + (isSound() ? 1 : 0);
    }

    private long withEphemerides(long start) {
        long d = start;
        for (int number = 0; number < ephemerides.size(); number++) {
            d = d * 31 + range(number, 0);
            d = d * 31 + range(number, 1234);
            d = d * 31 + square(number, 0);
            d = d * 31 + bestUnknown(number);
        }
        return d;
    }

    private long withStations(long start) {
        long d = start;
        for (int number = 0; number < stations.size(); number++) {
            for (int what = 0; what <= 6; what++) {
                d = d * 31 + ofStation(number, what);
            }
            d = d * 31 + median(number);
            d = d * 31 + turned(number, false);
            d = d * 31 + broken(number);
            d = d * 31 + arcs(number);
            d = d * 31 + arc(number, NONE);
        }
        return d;
    }

    private long withSessions(long start) {
        long d = start;
        for (int number = 0; number < sessions.size(); number++) {
            for (int what = 0; what <= 8; what++) {
                d = d * 31 + ofSession(number, what);
            }
        }
        return d;
    }

    private long withPoints(long start) {
        long d = start;
        for (int number = 0; number < points.size(); number++) {
            for (int what = 0; what <= 10; what++) {
                d = d * 31 + ofPoint(number, what);
            }
        }
        return d;
    }

    // ---- what is looked up

    private Ephemeris ephemerisOf(int number) {
        if (number < 0 || number >= ephemerides.size()) {
            throw new IndexOutOfBoundsException("no such EPHEMERIS");
        }
        return ephemerides.get(number);
    }

    private Station stationOf(int number) {
        if (number < 0 || number >= stations.size()) {
            throw new IndexOutOfBoundsException("no such STATION");
        }
        return stations.get(number);
    }

    private Mirror mirrorOf(int number) {
        if (number < 0 || number >= mirrors.size()) {
            throw new IndexOutOfBoundsException("no such MIRROR");
        }
        return mirrors.get(number);
    }

    private Session sessionOf(int number) {
        if (number < 0 || number >= sessions.size()) {
            throw new IndexOutOfBoundsException("no such SESSION");
        }
        return sessions.get(number);
    }

    private Point pointOf(int number) {
        if (number < 0 || number >= points.size()) {
            throw new IndexOutOfBoundsException("no such POINT");
        }
        return points.get(number);
    }

    private Series seriesOf(int station) {
        if (station < 0 || station >= stations.size()) {
            throw new IndexOutOfBoundsException("no such STATION");
        }
        series.gather(station, points);
        return series;
    }

    // ---- numbers

    private static boolean isTime(int time) {
        return time >= 0 && time < TIMES;
    }

    private static boolean isNight(int night) {
        return night >= 0 && night < NIGHTS;
    }

    private static boolean isPeriod(int period) {
        return period >= LEAST_PERIOD && period <= MOST_PERIOD;
    }

    private static boolean isAmplitude(int amplitude) {
        return amplitude >= -MOST_AMPLITUDE && amplitude <= MOST_AMPLITUDE;
    }

    private static boolean isSeed(int seed) {
        return seed >= 0 && seed <= MOST_SEED;
    }

    private static boolean isValue(int value) {
        return value >= -MOST_VALUE && value <= MOST_VALUE;
    }

    private static int held(int number, int least, int most) {
        return Math.max(least, Math.min(most, number));
    }

    private static int waveOf(int period, int x) {
        if (period <= 0) {
            return 0;
        }
        int rest = x % period;
        int y = (rest < 0 ? rest + period : rest) * 32 / period;
        if (y < 8) {
            return y;
        }
        return y < 24 ? 16 - y : y - 32;
    }

    // ---- light and sky

    private int airAt(Station one, int night) {
        int pressure = almanac.pressureAt(one.number, night);
        return pressure * (50 - one.height) / 100 + almanac.wetAt(one.number, night);
    }

    private int clockAt(Station one, int night) {
        return one.clock + almanac.leapsUntil(one.number, night);
    }

    private int trueLight(Station from, Mirror to, int time) {
        int night = time / SLOTS;
        int range = ephemerides.isEmpty() ? 0 : ephemerides.get(0).rangeAt(time);
        return 2 * (range + to.depth - from.placeAt(time)) + airAt(from, night) + clockAt(from, night);
    }

    private int forecast(Station from, Mirror to, int time, Ephemeris by) {
        return 2 * (by.rangeAt(time) + to.depth - from.height) + airAt(from, time / SLOTS);
    }

    private int chanceOf(Station from, Mirror to, int night) {
        int clean = from.power * to.size * (9 - to.dust) / 12;
        return Math.max(0, clean - almanac.wetAt(from.number, night));
    }

    private static boolean isEclipse(int time) {
        int slot = time % SLOTS;
        return time / SLOTS % 177 == 14 && slot >= 4 && slot <= 7;
    }

    private static boolean isFull(int time) {
        int age = time / SLOTS % 29;
        return age >= 13 && age <= 15 && !isEclipse(time);
    }

    private boolean isClear(Station one, int time) {
        return !isFull(time) && !almanac.isPlaneOver(one.number, time);
    }

    private int hindrance(Station one, int time) {
        if (isFull(time)) {
            return IS_FULL;
        }
        if (almanac.isPlaneOver(one.number, time)) {
            return IS_CROSSED;
        }
        return one.mayFireIn(time / SLOTS) ? 0 : IS_NOT_GIVEN;
    }

    private void keep(Session session) {
        if (sessions.size() >= MOST_SESSIONS) {
            sessions.remove(0);
        }
        sessions.add(session);
    }

    // ---- points that are counted

    private boolean isNamed(int ephemeris) {
        for (int number = 0; number < points.size(); number++) {
            if (points.get(number).ephemeris == ephemeris) {
                return true;
            }
        }
        return false;
    }

    private int pointsOf(int station) {
        int sum = 0;
        for (int number = 0; number < points.size(); number++) {
            sum += points.get(number).station == station ? 1 : 0;
        }
        return sum;
    }

    private int countingPoints() {
        int sum = 0;
        for (int number = 0; number < points.size(); number++) {
            sum += points.get(number).isCounting() ? 1 : 0;
        }
        return sum;
    }

    private int seenPoints() {
        int sum = 0;
        for (int number = 0; number < points.size(); number++) {
            sum += points.get(number).isSeen ? 1 : 0;
        }
        return sum;
    }

    private boolean isSuspect(Point one, int bound) {
        if (!one.isCounting() || one.station < 0 || one.station >= medians.length) {
            return false;
        }
        return Math.abs(one.value - medians[one.station]) > bound;
    }

    private int mirrorsFound() {
        int sum = 0;
        for (int number = 0; number < mirrors.size(); number++) {
            sum += mirrors.get(number).isFound ? 1 : 0;
        }
        return sum;
    }

    private int allTerms() {
        int sum = 0;
        for (int number = 0; number < ephemerides.size(); number++) {
            sum += ephemerides.get(number).terms.size();
        }
        return sum;
    }

    // ---- unknowns

    private boolean isUnknown(Ephemeris by, int unknown) {
        if (unknown < 0 || unknown > DRIFT_UNKNOWN) {
            return false;
        }
        if (unknown < FIRST_MIRROR_UNKNOWN) {
            return unknown < stations.size();
        }
        if (unknown < FIRST_TERM_UNKNOWN) {
            return unknown - FIRST_MIRROR_UNKNOWN < mirrors.size();
        }
        return unknown == DRIFT_UNKNOWN || unknown - FIRST_TERM_UNKNOWN < by.terms.size();
    }

    private boolean areUnknowns(Ephemeris by, int set) {
        if (set <= 0 || set >= 1 << (DRIFT_UNKNOWN + 1) || Integer.bitCount(set) > MOST_UNKNOWNS) {
            return false;
        }
        for (int unknown = 0; unknown <= DRIFT_UNKNOWN; unknown++) {
            if ((set >> unknown & 1) == 1 && !isUnknown(by, unknown)) {
                return false;
            }
        }
        return true;
    }

    // ---- tiles and ties

    private int nextTile() {
        int next = 0;
        int greatest = NONE;
        for (int tile = 0; tile < beliefs.length; tile++) {
            if (beliefs[tile] > greatest) {
                greatest = beliefs[tile];
                next = tile;
            }
        }
        return next;
    }

    /** The first TIE between both, either way round; null without one. */
    private Tie firstTie(int one, int other) {
        for (int number = 0; number < ties.size(); number++) {
            Tie tie = ties.get(number);
            if (tie.isBetween(one, other)) {
                return tie;
            }
        }
        return null;
    }

    private int ringsOrMisclosure(boolean isCount) {
        int rings = 0;
        int greatest = 0;
        for (int a = 0; a < mirrors.size(); a++) {
            for (int b = a + 1; b < mirrors.size(); b++) {
                for (int c = b + 1; c < mirrors.size(); c++) {
                    Tie ab = firstTie(a, b);
                    Tie bc = firstTie(b, c);
                    Tie ca = firstTie(c, a);
                    if (ab != null && bc != null && ca != null) {
                        rings++;
                        int misclosure = ab.lengthFrom(a) + bc.lengthFrom(b) + ca.lengthFrom(c);
                        greatest = Math.max(greatest, Math.abs(misclosure));
                    }
                }
            }
        }
        return isCount ? rings : greatest;
    }

    private int tiedToFirst() {
        if (mirrors.isEmpty()) {
            return 0;
        }
        int tied = 1;
        // Each round reaches one TIE farther, and no MIRROR is farther off than there are MIRRORS.
        for (int round = 0; round < mirrors.size(); round++) {
            for (int number = 0; number < ties.size(); number++) {
                Tie tie = ties.get(number);
                int both = 1 << tie.one | 1 << tie.other;
                if ((tied & both) != 0) {
                    tied |= both;
                }
            }
        }
        return Integer.bitCount(tied);
    }

    private int tiesOff() {
        int sum = 0;
        for (int number = 0; number < ties.size(); number++) {
            Tie tie = ties.get(number);
            sum += Math.abs(tie.length - (mirrorOf(tie.other).depth - mirrorOf(tie.one).depth));
        }
        return sum;
    }

    /** The ROW of numbers of a seed. */
    private static final class Row {
        private int last;

        Row(int seed) {
            last = seed;
        }

        int drawn() {
            last = (31 * last + 13) % 107;
            return last;
        }
    }

    private static final class Term {
        final int period;
        final int amplitude;
        final int phase;

        Term(int period, int amplitude, int phase) {
            this.period = period;
            this.amplitude = amplitude;
            this.phase = phase;
        }
    }

    private static final class Ephemeris {
        final int number;
        final int mean;
        final ArrayList<Term> terms;

        Ephemeris(int number, int mean) {
            this.number = number;
            this.mean = mean;
            terms = new ArrayList<Term>();
        }

        int rangeAt(int time) {
            int sum = mean;
            for (int number = 0; number < terms.size(); number++) {
                Term one = terms.get(number);
                sum += one.amplitude * waveOf(one.period, time + one.phase);
            }
            return sum;
        }
    }

    private static final class Station {
        final int number;
        final int height;
        final int tide;
        final int drift;
        final int clock;
        final int power;
        final boolean[] isUsed;
        int used;
        int given;
        int shots;

        Station(int number, int height, int tide, int drift, int clock, int power) {
            this.number = number;
            this.height = height;
            this.tide = tide;
            this.drift = drift;
            this.clock = clock;
            this.power = power;
            isUsed = new boolean[NIGHTS];
        }

        int tideAt(int time) {
            return tide * waveOf(SLOTS, time) / 8;
        }

        int placeAt(int time) {
            return height + tideAt(time) + drift * (time / SLOTS) / 30;
        }

        boolean mayFireIn(int night) {
            boolean isUsedThen = night >= 0 && night < isUsed.length && isUsed[night];
            return isUsedThen || used < given;
        }

        void fireIn(int night) {
            shots++;
            if (night >= 0 && night < isUsed.length && !isUsed[night]) {
                isUsed[night] = true;
                used++;
            }
        }
    }

    private static final class Mirror {
        final int depth;
        final int size;
        int dust;
        boolean isFound;

        Mirror(int depth, int size, int dust) {
            this.depth = depth;
            this.size = size;
            this.dust = dust;
        }
    }

    /** Reports, PLANES and LEAPS, each in the order in which they were told. */
    private static final class Almanac {
        private final int[] reportStations;
        private final int[] reportNights;
        private final int[] pressures;
        private final int[] wets;
        private final int[] planeStations;
        private final int[] planeStarts;
        private final int[] planeEnds;
        private final int[] leapStations;
        private final int[] leapNights;
        private final int[] leapWidths;
        int reports;
        int planes;
        int leaps;

        Almanac() {
            reportStations = new int[MOST_REPORTS];
            reportNights = new int[MOST_REPORTS];
            pressures = new int[MOST_REPORTS];
            wets = new int[MOST_REPORTS];
            planeStations = new int[MOST_PLANES];
            planeStarts = new int[MOST_PLANES];
            planeEnds = new int[MOST_PLANES];
            leapStations = new int[MOST_LEAPS];
            leapNights = new int[MOST_LEAPS];
            leapWidths = new int[MOST_LEAPS];
        }

        void addReport(int station, int night, int pressure, int wet) {
            if (reports >= 0 && reports < MOST_REPORTS) {
                reportStations[reports] = station;
                reportNights[reports] = night;
                pressures[reports] = pressure;
                wets[reports] = wet;
                reports++;
            }
        }

        void addPlane(int station, int from, int to) {
            if (planes >= 0 && planes < MOST_PLANES) {
                planeStations[planes] = station;
                planeStarts[planes] = from;
                planeEnds[planes] = to;
                planes++;
            }
        }

        void addLeap(int station, int night, int more) {
            if (leaps >= 0 && leaps < MOST_LEAPS) {
                leapStations[leaps] = station;
                leapNights[leaps] = night;
                leapWidths[leaps] = more;
                leaps++;
            }
        }

        private int reportThatHolds(int station, int night) {
            int holds = NONE;
            int latest = NONE;
            for (int k = 0; k < reports && k < MOST_REPORTS; k++) {
                int since = reportNights[k];
                if (reportStations[k] == station && since <= night && since >= latest) {
                    holds = k;
                    latest = since;
                }
            }
            return holds;
        }

        int pressureAt(int station, int night) {
            int report = reportThatHolds(station, night);
            return report >= 0 && report < MOST_REPORTS ? pressures[report] : 50;
        }

        int wetAt(int station, int night) {
            int report = reportThatHolds(station, night);
            return report >= 0 && report < MOST_REPORTS ? wets[report] : 0;
        }

        boolean isPlaneOver(int station, int time) {
            for (int k = 0; k < planes && k < MOST_PLANES; k++) {
                if (planeStations[k] == station && planeStarts[k] <= time && time <= planeEnds[k]) {
                    return true;
                }
            }
            return false;
        }

        int planesOver(int station) {
            int sum = 0;
            for (int k = 0; k < planes && k < MOST_PLANES; k++) {
                sum += planeStations[k] == station ? 1 : 0;
            }
            return sum;
        }

        int leapsUntil(int station, int night) {
            int sum = 0;
            for (int k = 0; k < leaps && k < MOST_LEAPS; k++) {
                if (leapStations[k] == station && leapNights[k] <= night) {
                    sum += leapWidths[k];
                }
            }
            return sum;
        }
    }

    private static final class Session {
        final int station;
        final int mirror;
        final int time;
        final int ephemeris;
        private final int[] counts;
        int counted;
        int found;
        int countFound;
        int point;

        Session(int station, int mirror, int time, int ephemeris) {
            this.station = station;
            this.mirror = mirror;
            this.time = time;
            this.ephemeris = ephemeris;
            counts = new int[BINS];
            point = NONE;
        }

        void fire(int chance, int aim, int pulses, Row row) {
            for (int pulse = 0; pulse < pulses; pulse++) {
                if (row.drawn() % 64 < chance) {
                    countOne(aim + row.drawn() % 5 - 2);
                } else if (row.drawn() % 3 == 0) {
                    countOne(row.drawn() % BINS - LAST_BIN);
                }
            }
            findBin();
        }

        private void countOne(int bin) {
            if (bin >= -LAST_BIN && bin <= LAST_BIN) {
                counts[bin + LAST_BIN]++;
                counted++;
            }
        }

        int countIn(int bin) {
            return bin >= -LAST_BIN && bin <= LAST_BIN ? counts[bin + LAST_BIN] : 0;
        }

        private int countAround(int bin) {
            return countIn(bin - 1) + countIn(bin) + countIn(bin + 1);
        }

        private void findBin() {
            found = 0;
            countFound = countAround(0);
            // From the least amount on, and -b ahead of b: so the first one of several is kept.
            for (int away = 1; away <= LAST_BIN; away++) {
                keepIfMore(-away);
                keepIfMore(away);
            }
        }

        private void keepIfMore(int bin) {
            int count = countAround(bin);
            if (count > countFound) {
                countFound = count;
                found = bin;
            }
        }

        boolean isReturn() {
            return countFound >= 4 && 4 * countFound >= counted;
        }

        int valueFound() {
            if (countFound == 0) {
                return 0;
            }
            int sum = 0;
            for (int bin = found - 1; bin <= found + 1; bin++) {
                sum += bin * countIn(bin);
            }
            return 16 * sum / countFound;
        }
    }

    private static final class Point {
        final int number;
        final int station;
        final int mirror;
        final int time;
        final int ephemeris;
        final int weight;
        int value;
        int old;
        int flags;
        int version;
        boolean isSeen;

        Point(int number, int station, int mirror, int time, int ephemeris, int value, int weight) {
            this.number = number;
            this.station = station;
            this.mirror = mirror;
            this.time = time;
            this.ephemeris = ephemeris;
            this.value = value;
            this.weight = weight;
            version = 1;
        }

        int nightOf() {
            return time / SLOTS;
        }

        boolean isCounting() {
            return (flags & 9) == 0;
        }

        void becomes(int other) {
            old = value;
            value = other;
            version++;
            flags |= 2;
        }
    }

    private static final class Tie {
        final int one;
        final int other;
        final int length;

        Tie(int one, int other, int length) {
            this.one = one;
            this.other = other;
            this.length = length;
        }

        boolean isBetween(int a, int b) {
            return one == a && other == b || one == b && other == a;
        }

        int lengthFrom(int mirror) {
            return one == mirror ? length : -length;
        }
    }

    /** The POINTS of a STATION that count, in the order of their TIMES; gathered anew for each question. */
    private static final class Series {
        private final ArrayList<Point> members;
        private final int[] sorted;
        private final int[] sumsAhead;
        int turnFirst;
        int turnLast;

        Series() {
            members = new ArrayList<Point>();
            sorted = new int[MOST_POINTS];
            sumsAhead = new int[MOST_POINTS];
        }

        void gather(int station, ArrayList<Point> points) {
            members.clear();
            for (int number = 0; number < points.size(); number++) {
                Point one = points.get(number);
                if (one.station == station && one.isCounting()) {
                    int place = members.size();
                    while (place > 0 && members.get(place - 1).time > one.time) {
                        place--;
                    }
                    members.add(place, one);
                }
            }
        }

        int numberAt(int place) {
            return place >= 0 && place < members.size() ? members.get(place).number : NONE;
        }

        private int valueAt(int place) {
            return place >= 0 && place < members.size() ? members.get(place).value : 0;
        }

        /** Puts a value among so many that are sorted already. */
        private void sortIn(int value, int many) {
            if (many < 0 || many >= sorted.length) {
                return;
            }
            int place = many;
            while (place > 0 && sorted[place - 1] > value) {
                sorted[place] = sorted[place - 1];
                place--;
            }
            sorted[place] = value;
        }

        private int middleOfSorted(int many) {
            return many > 0 && many <= sorted.length ? sorted[(many - 1) / 2] : 0;
        }

        private int sumOfSorted(int many) {
            int middle = middleOfSorted(many);
            int sum = 0;
            for (int place = 0; place < many && place < sorted.length; place++) {
                sum += Math.abs(sorted[place] - middle);
            }
            return sum;
        }

        int middle() {
            for (int place = 0; place < members.size(); place++) {
                sortIn(valueAt(place), place);
            }
            return middleOfSorted(members.size());
        }

        /** Where the second part of the BREAK begins; NONE without one. */
        int breakPlace() {
            int many = members.size();
            int whole = 0;
            for (int place = 0; place < many && place < sumsAhead.length; place++) {
                sortIn(valueAt(place), place);
                whole = sumOfSorted(place + 1);
                sumsAhead[place] = whole;
            }
            int best = NONE;
            int least = whole;
            for (int place = many - 1; place > 0 && place <= sumsAhead.length; place--) {
                sortIn(valueAt(place), many - 1 - place);
                int sum = sumsAhead[place - 1] + sumOfSorted(many - place);
                // It goes backward, so one that is as good is the earlier one.
                if (sum < whole && sum <= least) {
                    least = sum;
                    best = place;
                }
            }
            return best;
        }

        void findTurn() {
            turnFirst = NONE;
            turnLast = NONE;
            int middle = middle();
            int whole = sumOfSorted(members.size());
            int least = whole;
            for (int first = 0; first < members.size(); first++) {
                int sum = whole;
                for (int last = first; last < members.size(); last++) {
                    int value = valueAt(last);
                    sum += Math.abs(-value - middle) - Math.abs(value - middle);
                    if (last > first && sum < least) {
                        least = sum;
                        turnFirst = first;
                        turnLast = last;
                    }
                }
            }
        }

        private boolean beginsArc(int place) {
            if (place <= 0 || place >= members.size()) {
                return place == 0;
            }
            return members.get(place).nightOf() - members.get(place - 1).nightOf() > 29;
        }

        int countArcs() {
            int arcs = 0;
            for (int place = 0; place < members.size(); place++) {
                arcs += beginsArc(place) ? 1 : 0;
            }
            return arcs;
        }

        int toldByArc(int asked) {
            int arc = NONE;
            int sum = 0;
            int weights = 0;
            for (int place = 0; place < members.size(); place++) {
                arc += beginsArc(place) ? 1 : 0;
                if (arc == asked) {
                    Point one = members.get(place);
                    sum += one.weight * one.value;
                    weights += one.weight;
                }
            }
            return weights == 0 ? 0 : sum / weights;
        }

        int foretold() {
            int arcs = countArcs();
            if (arcs < 2) {
                return 0;
            }
            int last = toldByArc(arcs - 1);
            return last + last - toldByArc(arcs - 2);
        }
    }

    /** One FIT at a time; its rows are used again by the next one. */
    private static final class Fit {
        private final int[] unknowns;
        private final int[] partials;
        private final int[] fitted;
        private final long[] normal;
        private final long[] right;
        private Ephemeris by;
        private int out;
        private int unknownCount;
        int size;
        boolean isTold;

        Fit() {
            unknowns = new int[MOST_UNKNOWNS];
            partials = new int[MOST_UNKNOWNS];
            fitted = new int[MOST_UNKNOWNS];
            normal = new long[MOST_UNKNOWNS * MOST_UNKNOWNS];
            right = new long[MOST_UNKNOWNS];
            by = new Ephemeris(NONE, 0);
        }

        void solve(Ephemeris ephemeris, int set, int stationOut, ArrayList<Point> points) {
            by = ephemeris;
            out = stationOut;
            takeUnknowns(set);
            clearSums();
            size = 0;
            for (int number = 0; number < points.size(); number++) {
                Point one = points.get(number);
                if (isOfFit(one)) {
                    size++;
                    for (int k = 0; k < unknownCount && k < MOST_UNKNOWNS; k++) {
                        partials[k] = partialOf(unknowns[k], one);
                    }
                    addSums(one);
                }
            }
            tellFitted();
        }

        private void takeUnknowns(int set) {
            unknownCount = 0;
            for (int unknown = 0; unknown <= DRIFT_UNKNOWN; unknown++) {
                if ((set >> unknown & 1) == 1 && unknownCount >= 0 && unknownCount < MOST_UNKNOWNS) {
                    unknowns[unknownCount] = unknown;
                    unknownCount++;
                }
            }
        }

        /** With 1 at the corners that no UNKNOWN has, a determinant of three is that of fewer, too. */
        private void clearSums() {
            for (int row = 0; row < MOST_UNKNOWNS; row++) {
                right[row] = 0;
                for (int column = 0; column < MOST_UNKNOWNS; column++) {
                    normal[row * MOST_UNKNOWNS + column] = row == column && row >= unknownCount ? 1 : 0;
                }
            }
        }

        private void addSums(Point one) {
            for (int row = 0; row < unknownCount && row < MOST_UNKNOWNS; row++) {
                long weighted = (long) one.weight * partials[row];
                right[row] += weighted * one.value;
                for (int column = 0; column < unknownCount && column < MOST_UNKNOWNS; column++) {
                    normal[row * MOST_UNKNOWNS + column] += weighted * partials[column];
                }
            }
        }

        private boolean isOfFit(Point one) {
            return one.isCounting() && one.ephemeris == by.number && one.station != out;
        }

        private int partialOf(int unknown, Point one) {
            if (unknown < FIRST_MIRROR_UNKNOWN) {
                return one.station == unknown ? 1 : 0;
            }
            if (unknown < FIRST_TERM_UNKNOWN) {
                return one.mirror == unknown - FIRST_MIRROR_UNKNOWN ? 2 : 0;
            }
            if (unknown == DRIFT_UNKNOWN) {
                return one.nightOf() / 10;
            }
            int place = unknown - FIRST_TERM_UNKNOWN;
            if (place >= by.terms.size()) {
                return 0;
            }
            Term term = by.terms.get(place);
            return 2 * waveOf(term.period, one.time + term.phase);
        }

        private void tellFitted() {
            long det = determinant(NONE);
            isTold = det != 0;
            for (int k = 0; k < MOST_UNKNOWNS; k++) {
                fitted[k] = 0;
                if (det != 0 && k < unknownCount) {
                    fitted[k] = (int) Math.max(-20000, Math.min(20000, determinant(k) * 4 / det));
                }
            }
        }

        /** The determinant of N, with B in place of a column; NONE for N alone. */
        private long determinant(int replaced) {
            long sum = 0;
            for (int k = 0; k < MOST_UNKNOWNS; k++) {
                int next = (k + 1) % MOST_UNKNOWNS;
                int last = (k + 2) % MOST_UNKNOWNS;
                long plus = entry(1, next, replaced) * entry(2, last, replaced);
                long minus = entry(1, last, replaced) * entry(2, next, replaced);
                sum += entry(0, k, replaced) * (plus - minus);
            }
            return sum;
        }

        private long entry(int row, int column, int replaced) {
            if (row < 0 || row >= MOST_UNKNOWNS || column < 0 || column >= MOST_UNKNOWNS) {
                return 0;
            }
            return column == replaced ? right[row] : normal[row * MOST_UNKNOWNS + column];
        }

        int fittedAt(int place) {
            return place >= 0 && place < MOST_UNKNOWNS ? fitted[place] : 0;
        }

        /** What is FITTED for an UNKNOWN; 0 if it is none of this FIT. */
        int fittedOf(int unknown) {
            for (int k = 0; k < unknownCount && k < MOST_UNKNOWNS; k++) {
                if (unknowns[k] == unknown) {
                    return fitted[k];
                }
            }
            return 0;
        }

        int leftAt(Point one) {
            int sum = 4 * one.value;
            for (int k = 0; k < unknownCount && k < MOST_UNKNOWNS; k++) {
                sum -= fitted[k] * partialOf(unknowns[k], one);
            }
            return sum;
        }

        long squareOf(ArrayList<Point> points) {
            long sum = 0;
            for (int number = 0; number < points.size(); number++) {
                Point one = points.get(number);
                if (isOfFit(one)) {
                    long rest = leftAt(one);
                    sum += one.weight * rest * rest;
                }
            }
            return sum;
        }

        int worstOf(ArrayList<Point> points) {
            int worst = NONE;
            int greatest = NONE;
            for (int number = 0; number < points.size(); number++) {
                Point one = points.get(number);
                if (isOfFit(one) && Math.abs(leftAt(one)) > greatest) {
                    greatest = Math.abs(leftAt(one));
                    worst = number;
                }
            }
            return worst;
        }
    }
}
