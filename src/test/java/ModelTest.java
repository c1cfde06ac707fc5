import java.lang.reflect.InvocationTargetException;
import java.lang.reflect.Method;
import java.lang.reflect.Modifier;
import java.util.ArrayList;
import java.util.Comparator;
import java.util.List;
import java.util.Map;
import java.util.TreeMap;

/** Long runs of made-up calls: the program and PlainMoon must answer each of them alike. */
public final class ModelTest {
    private static final int RUNS = 150;
    private static final int CALLS = 512;

    /** The share of each call, its name, and what kind each argument is of; see number(). */
    private static final String[] CALLS_MADE = {
        "1 ephemeris 0..9999", "1 term eph period amplitude 0..399", "1 station 0..40 0..9 -9..9 -9..9 1..9",
        "1 mirror depth 1..9 dust", "2 weather stn 0..359 0..99 0..20", "1 plane stn time time2",
        "1 leap stn 0..359 -9..9", "1 dust mir dust", "1 close stn", "2 give stn 1..99", "1 wave period any",
        "1 range eph time", "2 light stn mir time eph", "2 ofStation stn 0..6", "1 sky stn time", "1 plan stn time",
        "1 eclipse stn time", "1 chance stn mir 0..359", "9 shoot stn mir time eph 1..60 0..99",
        "2 ofSession ses 0..8", "2 ofSession ses 20..60", "4 publish ses", "6 plant stn mir time eph value 1..9",
        "2 amend pnt value", "1 flag pnt 0..3", "1 archive stn 0..180 180..359 2..64", "1 archive stn 0..359 0..359 2..64",
        "2 ofPoint pnt 0..10", "1 median stn", "2 suspect 0..800 0..4", "2 suspect 0..20 0..12", "2 turned stn truth",
        "2 broken stn", "2 arc stn -1..3", "1 arcs stn", "6 fit eph unknowns stn 0..4", "3 left eph unknowns pnt",
        "3 square eph unknowns", "3 claim eph unknown bound", "3 worst eph unknowns", "1 bestUnknown eph",
        "1 improve eph unknowns", "2 search mir 0..15 0..99", "1 hint 0..15 0..9", "1 belief -1..15",
        "2 tie mir mir length", "2 map 0..3", "2 many 0..12", "1 tell pnt", "1 isSound", "1 knock", "1 digest"};

    private long state;
    private boolean isWild;
    private int spread;

    private ModelTest(long seed) {
        state = seed * 7919 + 17;
    }

    private int below(int n) {
        state = state * 6364136223846793005L + 1442695040888963407L;
        return (int) ((state >>> 33) % n);
    }

    private int between(int least, int most) {
        // Now and then an edge, or what is just beside it.
        int kind = below(isWild ? 12 : 400);
        if (kind == 0) {
            return least - 1;
        }
        if (kind == 1) {
            return most + 1;
        }
        if (kind == 2) {
            return least;
        }
        return kind == 3 ? most : least + below(most - least + 1);
    }

    private int time() {
        // Points that lie close together, and nights about full moon, are met more often.
        int kind = below(6);
        if (kind == 0) {
            return between(0, 4319);
        }
        if (kind == 1) {
            return 12 * (29 * below(12) + 12 + below(5)) + below(12);
        }
        if (kind == 2) {
            return 12 * (14 + 177 * below(2)) + below(12);
        }
        return spread * below(12) + below(24);
    }

    /** Mostly one that there is, if there are so many stations and mirrors, and some terms. */
    private int unknown(int stations, int mirrors) {
        switch (below(4)) {
            case 0: return below(Math.max(1, stations));
            case 1: return 4 + below(Math.max(1, mirrors));
            case 2: return 9 + below(3);
            default: return below(6) == 0 ? between(0, 14) : 14;
        }
    }

    private int unknowns(int stations, int mirrors) {
        if (below(isWild ? 6 : 60) == 0) {
            return new int[] {0, -1, 1 << 15, 15, 1 << 31, 8 | 1 << 20}[below(6)];
        }
        int set = 0;
        int many = 1 + below(3);
        for (int k = 0; k < many; k++) {
            set |= 1 << unknown(stations, mirrors);
        }
        return set;
    }

    private int value() {
        int kind = below(5);
        return kind == 0 ? between(-400, 400) : kind == 1 ? 100 + below(30) : kind == 2 ? -100 - below(30) : below(9) - 4;
    }

    private Object number(String kind, int stations, int mirrors, int ephemerides, int points) {
        if (kind.contains("..")) {
            String[] ends = kind.split("\\.\\.");
            return between(Integer.parseInt(ends[0]), Integer.parseInt(ends[1]));
        }
        switch (kind) {
            case "eph": return between(below(9) == 0 ? -1 : 0, Math.max(0, ephemerides - 1));
            case "stn": return between(below(9) == 0 ? -1 : 0, Math.max(0, stations - 1));
            case "mir": return between(0, Math.max(0, mirrors - 1));
            case "pnt": return between(0, Math.max(0, points - 1));
            case "ses": return between(0, 7);
            case "period": return between(4, below(2) == 0 ? 20 : 400);
            case "amplitude": return below(2) == 0 ? between(-50, 50) : below(7) - 3;
            case "depth": return below(3) == 0 ? below(5) : between(-99, 99);
            case "dust": return below(3) == 0 ? between(0, 8) : below(3);
            case "time": return time();
            case "time2": return below(3) == 0 ? between(0, 4319) : time() + below(40);
            case "any": return new int[] {below(1 << 30) - (1 << 29), below(800) - 400, 1 << 31, -1 >>> 1}[below(4)];
            case "value": return value();
            case "truth": return below(2) == 0;
            case "unknowns": return unknowns(stations, mirrors);
            case "unknown": return below(9) == 0 ? between(0, 14) : unknown(stations, mirrors);
            case "bound": return below(2) == 0 ? between(1, 4000) : 1 + below(40);
            case "length": return below(2) == 0 ? below(9) - 4 : between(-300, 300);
            default: throw new IllegalStateException(kind);
        }
    }

    private static Map<String, Method> methodsOf(Class<?> type) {
        Map<String, Method> methods = new TreeMap<>();
        for (Method m : type.getDeclaredMethods()) {
            if (!Modifier.isPrivate(m.getModifiers())) {
                m.setAccessible(true);
                methods.put(m.getName(), m);
            }
        }
        return methods;
    }

    private static Object answer(Method m, Object on, Object[] with) throws IllegalAccessException {
        try {
            return m.invoke(on, with);
        } catch (InvocationTargetException e) {
            Throwable thrown = e.getCause();
            return on instanceof PlainMoon ? "throws." + thrown.getClass().getSimpleName() : Checks.thrown(thrown);
        }
    }

    private static List<String[]> shares() {
        List<String[]> all = new ArrayList<>();
        for (String line : CALLS_MADE) {
            String[] words = line.split(" ");
            for (int k = 0; k < Integer.parseInt(words[0]); k++) {
                all.add(words);
            }
        }
        return all;
    }

    private static String beginningOf(int run, int call) {
        // A run begins with something to shoot from and at, or it would be over before there is any point.
        String[] first = {"ephemeris 0..9999", "term eph period amplitude 0..399", "term eph period amplitude 0..399",
            "station 0..40 0..9 -9..9 -9..9 1..9", "station 0..40 0..9 -9..9 -9..9 1..9", "mirror depth 1..9 dust",
            "mirror depth 1..9 dust", "give stn 1..99", "give stn 1..99"};
        return run % 8 != 0 && call < first.length ? "0 " + first[call] : null;
    }

    private boolean run(int run, Map<String, Method> ours, Map<String, Method> plain, Map<String, int[]> seen)
            throws IllegalAccessException {
        Moonmirror x = new Moonmirror();
        PlainMoon y = new PlainMoon();
        List<String[]> shares = shares();
        List<String> told = new ArrayList<>();
        isWild = run % 3 == 0;
        spread = new int[] {12, 100, 330}[run % 3];
        for (int call = 0; call < CALLS; call++) {
            String first = beginningOf(run, call);
            String[] words = first != null ? first.split(" ") : shares.get(below(shares.size()));
            Object[] with = new Object[words.length - 2];
            for (int k = 0; k < with.length; k++) {
                with[k] = number(words[k + 2], y.many(1), y.many(2), y.many(0), y.many(6));
            }
            Object got = answer(ours.get(words[1]), x, with);
            Object want = answer(plain.get(words[1]), y, with);
            told.add(words[1] + java.util.Arrays.toString(with) + " -> " + got);
            seen.computeIfAbsent(words[1], k -> new int[2])[String.valueOf(want).startsWith("throws") ? 1 : 0]++;
            boolean isAlike = want.equals(got);
            if (isAlike && (call % 32 == 0 || call == CALLS - 1)) {
                told.add("digest -> " + x.digest());
                isAlike = x.digest() == y.digest();
                want = y.digest();
            }
            if (!isAlike) {
                System.out.println("run " + run + ":");
                told.forEach(System.out::println);
                System.out.println("due is " + want);
                return false;
            }
        }
        return true;
    }

    public static void main(String[] args) throws IllegalAccessException {
        Map<String, Method> ours = methodsOf(Moonmirror.class);
        Map<String, Method> plain = methodsOf(PlainMoon.class);
        Map<String, int[]> seen = new TreeMap<>();
        for (int run = 0; run < RUNS; run++) {
            if (!new ModelTest(run).run(run, ours, plain, seen)) {
                System.exit(1);
            }
        }
        if (args.length > 0) {
            seen.entrySet().stream().sorted(Comparator.comparing(Map.Entry::getKey))
                    .forEach(e -> System.out.println(e.getKey() + " " + e.getValue()[0] + " answers, " + e.getValue()[1] + " throws"));
        }
        System.out.println(RUNS + " runs of " + CALLS + " calls answered alike");
    }
}
