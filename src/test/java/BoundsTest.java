import java.lang.reflect.InvocationTargetException;
import java.lang.reflect.Method;
import java.lang.reflect.Modifier;
import java.util.ArrayList;
import java.util.Arrays;
import java.util.List;
import java.util.Map;
import java.util.TreeMap;
import java.util.TreeSet;

/**
 * Each number of each call of the face: the last one that is let and the first one that is not, at both ends; of
 * several exceptions the one that the document names first; and that nothing has changed behind a call that throws.
 */
public final class BoundsTest {
    /**
     * The object, the call, and of each number the exception (I: IndexOutOfBounds, A: IllegalArgument, U: the same for
     * a set of unknowns), from where to where it is let, and behind '=' one to begin with (otherwise the least one).
     * A tie stands below: its numbers hang together.
     */
    private static final String[] CALLS = {
        "some ephemeris A0..9999",
        "some term I0..2 A4..400 A-50..50 A0..399",
        "some station A0..40 A0..9 A-9..9 A-9..9 A1..9",
        "some mirror A-99..99 A1..9 A0..8",
        "some weather I0..1 A0..359 A0..99 A0..20",
        "some plane I0..1 A0..4319 A0..4319=4319",
        "some leap I0..1 A0..359 A-9..9",
        "some dust I0..2 A0..8",
        "some close I0..1",
        "some give I0..1 A1..99",
        "some wave A4..400 A-2147483648..2147483647",
        "some range I0..2 A0..4319",
        "some light I0..1 I0..2 A0..4319 I-1..2",
        "told ofStation I0..1 A0..6",
        "some sky I0..1 A0..4319",
        "some plan I0..1 A0..4319",
        "some eclipse I0..1 A0..4319",
        "some chance I0..1 I0..2 A0..359",
        "some shoot I0..1 I0..2 A0..4319 I0..2 A1..60 A0..99",
        "some ofSession I0..1 A0..8",
        "some ofSession I0..1 A20..60",
        "some publish I0..1",
        "told plant I0..1 I0..2 A0..4319 I0..2 A-400..400 A1..9",
        "told amend I0..5 A-400..400",
        "told flag I0..5 A0..3",
        "told archive I0..1 A0..359 A0..359=359 A2..64",
        "told ofPoint I0..5 A0..10",
        "told median I0..1",
        "told suspect A0..800 A0..2147483647",
        "told turned I0..1 truth",
        "told broken I0..1",
        "told arc I0..1 I-1..2",
        "told arcs I0..1",
        "told fit I0..2 U1..3=19 I-1..1 A0..4",
        "told left I0..2 U1..3 I0..5",
        "told square I0..2 U0..3",
        "told claim I0..2 A0..14 A1..4000",
        "told worst I0..2 U1..3",
        "told bestUnknown I0..2",
        "told improve I0..2 U1..3",
        "some search I0..2 I0..15 A0..99",
        "some hint I0..15 A0..9",
        "some belief I-1..15",
        "told map A0..3",
        "told many A0..12",
        "told tell I0..5"};

    /** The calls that throw an IllegalStateException on an object in which all is full. */
    private static final List<String> OF_STATE = List.of("ephemeris", "term", "station", "mirror", "weather", "plane",
            "leap", "publish", "plant", "improve");

    private BoundsTest() {
    }

    /** Some of each, and room for more; the sessions are both returns; there is no point. */
    static Moonmirror some() {
        Moonmirror x = new Moonmirror();
        for (int e = 0; e < 3; e++) {
            x.ephemeris(1000 + e);
            x.term(e, 8, 5, e);
        }
        x.station(10, 8, 9, 2, 6);
        x.station(0, 0, 0, 0, 9);
        x.mirror(5, 4, 1);
        x.mirror(-99, 9, 0);
        x.mirror(99, 9, 8);
        x.weather(0, 10, 60, 3);
        x.plane(0, 100, 120);
        x.leap(0, 5, 2);
        x.give(0, 3);
        x.give(1, 5);
        x.shoot(1, 1, 0, 0, 20, 7);
        x.shoot(1, 1, 1, 0, 20, 7);
        x.tie(0, 1, 5);
        return x;
    }

    /** With a point of each station by each ephemeris, and three arcs of each station. */
    static Moonmirror told() {
        Moonmirror x = some();
        x.plant(0, 0, 0, 0, 16, 1);
        x.plant(1, 1, 500, 0, -16, 2);
        x.plant(0, 2, 1000, 1, 20, 3);
        x.plant(1, 0, 1500, 1, -20, 4);
        x.plant(0, 1, 4319, 2, 7, 5);
        x.plant(1, 2, 3000, 2, 9, 6);
        return x;
    }

    /** With as many of each as the document lets. */
    static Moonmirror full() {
        Moonmirror x = some();
        x.ephemeris(0);
        x.term(3, 4, 1, 0);
        for (int k = 0; k < 16; k++) {
            x.term(k % 4, 4 + k, k, k);
        }
        x.station(0, 0, 0, 0, 1);
        x.station(0, 0, 0, 0, 1);
        x.mirror(0, 1, 0);
        x.mirror(0, 1, 0);
        for (int k = 1; k < 12; k++) {
            x.weather(k % 4, k, k, k);
            x.plane(k % 4, k, 2 * k);
        }
        for (int k = 1; k < 8; k++) {
            x.leap(k % 4, k, k);
        }
        for (int k = 1; k < 10; k++) {
            x.tie(k % 5, (k + 1) % 5, k);
        }
        for (int k = 0; k < 40; k++) {
            x.plant(k % 4, k % 5, k, k % 3, k, 1);
        }
        return x;
    }

    private static Moonmirror object(String name) {
        return name.equals("some") ? some() : name.equals("told") ? told() : full();
    }

    private static final class Argument {
        final boolean isTruth;
        final boolean isIndex;
        final boolean growsWhenFull;
        final long least;
        final long most;
        final long first;

        Argument(String words) {
            isTruth = words.equals("truth");
            isIndex = words.charAt(0) == 'I';
            growsWhenFull = words.charAt(0) != 'A';
            String[] ends = isTruth ? new String[] {"0", "1"} : words.substring(1).split("=")[0].split("\\.\\.");
            least = Long.parseLong(ends[0]);
            most = Long.parseLong(ends[1]);
            first = words.contains("=") ? Long.parseLong(words.split("=")[1]) : least;
        }

        /** What is not let: beside both ends, and far off. */
        List<Integer> beyond(boolean isFull) {
            List<Integer> all = new ArrayList<>();
            for (long one : new long[] {least - 1, most + 1, Integer.MIN_VALUE, Integer.MAX_VALUE}) {
                boolean isThere = isFull && growsWhenFull && one == most + 1;
                if (!isTruth && (one < least || one > most) && one == (int) one && !isThere) {
                    all.add((int) one);
                }
            }
            return all;
        }

        String exception() {
            return isIndex ? "throws.IndexOutOfBoundsException" : "throws.IllegalArgumentException";
        }
    }

    private static final Map<String, Method> METHODS = methods();

    private static Map<String, Method> methods() {
        Map<String, Method> all = new TreeMap<>();
        for (Method m : Moonmirror.class.getDeclaredMethods()) {
            if (Modifier.isPublic(m.getModifiers())) {
                all.put(m.getName(), m);
            }
        }
        return all;
    }

    private static String answer(Moonmirror x, String name, Argument[] arguments, long[] numbers) {
        Object[] with = new Object[numbers.length];
        for (int k = 0; k < numbers.length; k++) {
            with[k] = arguments[k].isTruth ? (Object) (numbers[k] == 1) : (Object) (int) numbers[k];
        }
        String call = name + Arrays.toString(with) + " ";
        try {
            METHODS.get(name).invoke(x, with);
            return call + "answers";
        } catch (InvocationTargetException e) {
            return call + Checks.thrown(e.getCause());
        } catch (IllegalAccessException e) {
            return call + e;
        }
    }

    private static void refused(Moonmirror x, String due, String name, Argument[] arguments, long[] numbers) {
        long before = Looks.all(x);
        String got = answer(x, name, arguments, numbers);
        Checks.due(got.substring(0, got.indexOf("]") + 2) + due, () -> got);
        Checks.due(got + ": " + before, () -> got + ": " + Looks.all(x));
    }

    private static void let(Moonmirror x, String name, Argument[] arguments, long[] numbers) {
        String got = answer(x, name, arguments, numbers);
        Checks.due(got.substring(0, got.indexOf("]") + 2) + "answers", () -> got);
    }

    private static long[] with(long[] numbers, int place, long number) {
        long[] other = numbers.clone();
        other[place] = number;
        return other;
    }

    private static void ends(String object, String name, Argument[] arguments, long[] first) {
        let(object(object), name, arguments, first);
        for (int k = 0; k < arguments.length; k++) {
            let(object(object), name, arguments, with(first, k, arguments[k].least));
            let(object(object), name, arguments, with(first, k, arguments[k].most));
        }
    }

    private static void beyond(Moonmirror x, String name, Argument[] arguments, long[] first, boolean isFull) {
        for (int k = 0; k < arguments.length; k++) {
            for (int one : arguments[k].beyond(isFull)) {
                refused(x, arguments[k].exception(), name, arguments, with(first, k, one));
                for (int j = 0; j < arguments.length; j++) {
                    for (int other : arguments[j].beyond(isFull)) {
                        if (j != k) {
                            Argument named = arguments[j].isIndex ? arguments[j] : arguments[k];
                            refused(x, named.exception(), name, arguments, with(with(first, k, one), j, other));
                        }
                    }
                }
            }
        }
    }

    private static void each(String line) {
        String[] words = line.split(" ");
        Argument[] arguments = new Argument[words.length - 2];
        long[] first = new long[arguments.length];
        for (int k = 0; k < arguments.length; k++) {
            arguments[k] = new Argument(words[k + 2]);
            first[k] = arguments[k].first;
        }
        ends(words[0], words[1], arguments, first);
        beyond(object(words[0]), words[1], arguments, first, false);
        if (OF_STATE.contains(words[1])) {
            Moonmirror x = full();
            refused(x, "throws.IllegalStateException", words[1], arguments, first);
            beyond(x, words[1], arguments, first, true);
        }
    }

    /** On an object without anything there is nothing that could be named. */
    private static void nothingThere(String line) {
        String[] words = line.split(" ");
        Argument[] arguments = new Argument[words.length - 2];
        long[] first = new long[arguments.length];
        boolean isOfThings = false;
        for (int k = 0; k < arguments.length; k++) {
            arguments[k] = new Argument(words[k + 2]);
            first[k] = arguments[k].first;
            isOfThings |= arguments[k].isIndex;
        }
        if (isOfThings && !words[1].equals("hint") && !words[1].equals("belief")) {
            refused(new Moonmirror(), "throws.IndexOutOfBoundsException", words[1], arguments, first);
        }
    }

    /** Every method of the face stands in the table, but for those that take nothing. */
    private static void allAreThere() {
        TreeSet<String> told = new TreeSet<>();
        for (String line : CALLS) {
            told.add(line.split(" ")[1]);
        }
        told.addAll(List.of("tie", "isSound", "knock", "digest"));
        Checks.due(METHODS.keySet().toString(), () -> told.toString());
    }

    /** What goes beyond one number alone: a TIME ahead of another, both the same, a set of too many. */
    private static void together() {
        Moonmirror x = told();
        Checks.argument(x, () -> x.plane(0, 1, 0));
        Checks.argument(x, () -> x.plane(0, 4319, 4318));
        Checks.index(x, () -> x.plane(2, 1, 0));
        Checks.due(2, () -> x.plane(0, 4319, 4319));
        Checks.argument(x, () -> x.archive(0, 1, 0, 2));
        Checks.argument(x, () -> x.archive(0, 359, 358, 2));
        Checks.index(x, () -> x.archive(2, 1, 0, 2));
        Checks.due(0, () -> x.archive(0, 5, 5, 2));
        Moonmirror full = full();
        Checks.argument(full, () -> full.plane(0, 1, 0));
        Checks.state(full, () -> full.plane(0, 1, 1));
    }

    private static void ties() {
        Moonmirror x = some();
        for (int bad : new int[] {-1, 3, Integer.MIN_VALUE, Integer.MAX_VALUE}) {
            Checks.index(x, () -> x.tie(bad, 0, 0));
            Checks.index(x, () -> x.tie(2, bad, 0));
            Checks.index(x, () -> x.tie(bad, bad, 0));
            Checks.index(x, () -> x.tie(bad, 0, 301));
            Checks.index(x, () -> x.tie(2, bad, -301));
        }
        for (int bad : new int[] {-301, 301, Integer.MIN_VALUE, Integer.MAX_VALUE}) {
            Checks.argument(x, () -> x.tie(0, 2, bad));
            Checks.argument(x, () -> x.tie(2, 2, bad));
        }
        Checks.argument(x, () -> x.tie(0, 0, 0));
        Checks.argument(x, () -> x.tie(2, 2, 300));
        Checks.due(2, () -> x.tie(0, 2, -300));
        Checks.due(3, () -> x.tie(2, 0, 300));
        Moonmirror full = full();
        Checks.state(full, () -> full.tie(0, 4, 0));
        Checks.argument(full, () -> full.tie(4, 4, 0));
        Checks.argument(full, () -> full.tie(0, 4, 301));
        Checks.index(full, () -> full.tie(0, 5, 301));
    }

    public static void main(String[] args) {
        allAreThere();
        for (String line : CALLS) {
            each(line);
            nothingThere(line);
        }
        together();
        ties();
        Checks.end();
    }
}
