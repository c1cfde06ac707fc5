import java.util.ArrayList;
import java.util.List;

/**
 * A method that throws an exception changes nothing, and what is asked changes nothing, but TRIALS: also nothing that
 * is seen by a later call alone.
 */
public final class NothingChangedTest {
    private interface Told {
        Object by(Moonmirror x);
    }

    private NothingChangedTest() {
    }

    private static String answer(Told call, Moonmirror x) {
        try {
            return String.valueOf(call.by(x));
        } catch (RuntimeException e) {
            return Checks.thrown(e);
        }
    }

    /** Calls that tell something, until all is full; each list is filled by the last call that it lets. */
    private static List<Told> telling() {
        List<Told> all = new ArrayList<>();
        for (int k = 0; k < 5; k++) {
            int number = k;
            if (k < 4) {
                all.add(x -> x.ephemeris(1000 * number));
                all.add(x -> x.station(10 * number, number, number, -number, 9));
            }
            all.add(x -> x.mirror(20 * number - 40, 5 + number % 5, 0));
        }
        for (int k = 0; k < 20; k++) {
            int number = k;
            all.add(x -> x.term(number / 5, 4 + 9 * number, 3 * number - 30, number));
        }
        for (int k = 0; k < 12; k++) {
            int number = k;
            all.add(x -> x.weather(number % 4, 30 * number, 8 * number, number));
            all.add(x -> x.plane(number % 4, 90 * number, 90 * number + 20));
            if (k < 8) {
                all.add(x -> x.leap(number % 4, 40 * number, number - 4));
            }
            if (k < 10) {
                all.add(x -> x.tie(number % 5, (number + 1 + number / 5) % 5, 10 * number));
            }
        }
        for (int k = 0; k < 12; k++) {
            int number = k;
            all.add(x -> x.give(number % 4, 3));
            all.add(x -> x.shoot(number % 4, number % 5, 50 + 37 * number, number % 4, 20 + number, 7 * number));
            all.add(x -> x.publish(number % 8));
            all.add(x -> x.dust(number % 5, number % 3));
            all.add(x -> x.search(number % 5, (20 * (number % 5) + 59) / 13, 5 * number));
            all.add(x -> x.hint(number, number % 10));
            all.add(x -> x.claim(number % 4, number % 2 * 14, 1 + number));
        }
        for (int k = 0; k < 40; k++) {
            int number = k;
            all.add(x -> x.plant(number % 4, number % 5, 100 * number, number % 3, 29 * number % 81 - 40, 1 + number % 9));
        }
        all.add(x -> x.flag(3, 0));
        all.add(x -> x.flag(4, 2));
        all.add(x -> x.amend(5, -5));
        all.add(x -> x.archive(1, 0, 200, 7));
        all.add(x -> x.close(2));
        all.add(x -> x.knock());
        return all;
    }

    /** Calls that throw, in whatever state: each kind of them for each method that tells something. */
    private static List<Told> refused() {
        List<Told> all = new ArrayList<>(List.of(x -> x.ephemeris(10000), x -> x.term(-1, 4, 1, 0), x -> x.term(4, 4, 1, 0),
                x -> x.term(0, 3, 1, 0), x -> x.station(0, 0, 0, 0, 0), x -> x.station(41, 0, 0, 0, 1), x -> x.mirror(0, 0, 0),
                x -> x.mirror(100, 1, 0), x -> x.weather(4, 0, 0, 0), x -> x.weather(0, 0, 0, 21), x -> x.plane(4, 0, 0)));
        all.addAll(List.of(x -> x.plane(0, 5, 4), x -> x.leap(-1, 0, 1), x -> x.leap(0, 0, 10), x -> x.dust(5, 1),
                x -> x.dust(0, 9), x -> x.close(4), x -> x.give(4, 1), x -> x.give(0, 100), x -> x.shoot(4, 0, 0, 0, 1, 0)));
        all.addAll(List.of(x -> x.shoot(0, 5, 0, 0, 1, 0), x -> x.shoot(0, 0, 0, 4, 1, 0), x -> x.shoot(0, 0, 0, 0, 61, 0),
                x -> x.shoot(0, 0, 0, 0, 1, 100), x -> x.shoot(0, 0, 4320, 0, 1, 0), x -> x.publish(8), x -> x.publish(-1)));
        all.addAll(List.of(x -> x.plant(4, 0, 0, 0, 0, 1), x -> x.plant(0, 5, 0, 0, 0, 1), x -> x.plant(0, 0, 0, 4, 0, 1),
                x -> x.plant(0, 0, 0, 0, 401, 1), x -> x.plant(0, 0, 0, 0, 0, 10), x -> x.amend(40, 0), x -> x.amend(0, 401)));
        all.addAll(List.of(x -> x.flag(40, 0), x -> x.flag(0, 4), x -> x.archive(4, 0, 359, 2), x -> x.archive(0, 0, 359, 65),
                x -> x.archive(0, 9, 8, 2), x -> x.claim(4, 14, 1), x -> x.claim(0, 15, 1), x -> x.claim(0, 14, 0)));
        all.addAll(List.of(x -> x.improve(4, 1), x -> x.improve(0, 0), x -> x.search(5, 0, 0), x -> x.search(0, 16, 0),
                x -> x.search(0, 0, 100), x -> x.hint(16, 0), x -> x.hint(0, 10), x -> x.tie(0, 5, 0), x -> x.tie(0, 0, 0)));
        return all;
    }

    /** Calls that throw when all is full. */
    private static List<Told> refusedWhenFull() {
        return List.of(x -> x.ephemeris(1), x -> x.term(3, 4, 1, 0), x -> x.station(0, 0, 0, 0, 1), x -> x.mirror(0, 1, 0),
                x -> x.weather(0, 0, 0, 0), x -> x.plane(0, 0, 0), x -> x.leap(0, 0, 1), x -> x.tie(0, 1, 0),
                x -> x.plant(0, 0, 0, 0, 0, 1), x -> x.improve(0, 1));
    }

    private static List<Told> asking() {
        List<Told> all = new ArrayList<>();
        for (int k = 0; k < 4; k++) {
            int n = k;
            all.addAll(List.of(x -> x.range(n, 77 * n), x -> x.light(n, n, 99 * n, n), x -> x.light(n, n, 99 * n, -1),
                    x -> x.ofStation(n, n), x -> x.sky(n, 200 * n), x -> x.plan(n, 150 * n), x -> x.eclipse(n, 160 * n)));
            all.addAll(List.of(x -> x.chance(n, n, n), x -> x.ofSession(n, n + 4), x -> x.ofPoint(n, n + 4), x -> x.median(n),
                    x -> x.suspect(n, n), x -> x.turned(n, false), x -> x.turned(n, true), x -> x.broken(n)));
            all.addAll(List.of(x -> x.arcs(n), x -> x.arc(n, -1), x -> x.arc(n, 0), x -> x.fit(n, 1 | 1 << 4 | 1 << 14, n, 1),
                    x -> x.fit(n, 1 | 1 << 9, -1, 0), x -> x.left(n, 1 << n, 10 * n), x -> x.square(n, 1 << 4 + n)));
            all.addAll(List.of(x -> x.square(n, 0), x -> x.worst(n, 2 | 1 << 10), x -> x.bestUnknown(n), x -> x.belief(n - 1),
                    x -> x.map(n), x -> x.many(3 * n), x -> x.tell(n), x -> x.isSound(), x -> x.digest(), x -> x.wave(5, n)));
        }
        return all;
    }

    /** One object is told all of it alone; of the other one other things are asked, and it refuses, all the while. */
    private static void besideEachOther() {
        Moonmirror x = new Moonmirror();
        Moonmirror y = new Moonmirror();
        List<Told> all = telling();
        Checks.due(true, () -> all.size() > 200);
        for (Told call : all) {
            for (Told wrong : refused()) {
                Checks.due(true, () -> answer(wrong, x).startsWith("throws."));
            }
            for (Told question : asking()) {
                answer(question, x);
            }
            String due = answer(call, y);
            Checks.due(due, () -> answer(call, x));
            Checks.due(Looks.all(y), () -> Looks.all(x));
        }
        for (Told wrong : refusedWhenFull()) {
            Checks.due("throws.IllegalStateException", () -> answer(wrong, x));
            Checks.due(Looks.all(y), () -> Looks.all(x));
        }
        Checks.due(2, () -> y.knock());
        Checks.due(2, () -> x.knock());
        Checks.due("4 4 5 8 40 10 20", () -> x.many(0) + " " + x.many(1) + " " + x.many(2) + " " + x.many(3) + " "
                + x.many(6) + " " + x.many(11) + " " + x.many(12));
    }

    private static Moonmirror toldAll() {
        Moonmirror x = new Moonmirror();
        for (Told call : telling()) {
            answer(call, x);
        }
        return x;
    }

    /** What is asked answers alike, whatever was asked ahead of it. */
    private static void inAnyOrder() {
        Moonmirror x = toldAll();
        long before = Looks.all(x);
        List<Told> all = asking();
        List<String> due = new ArrayList<>();
        for (Told question : all) {
            due.add(answer(question, toldAll()));
        }
        for (int step : new int[] {1, all.size() - 1, 1, 7, 11}) {
            for (int k = 0; k < all.size(); k++) {
                int place = k * step % all.size();
                Checks.due(due.get(place), () -> answer(all.get(place), x));
            }
        }
        Checks.due(before, () -> Looks.all(x));
        Checks.due(0L, () -> due.stream().filter(answer -> answer.startsWith("throws")).count());
    }

    /** A CLAIM changes TRIALS, and nothing else. */
    private static void claimsAreCounted() {
        Moonmirror x = toldAll();
        Moonmirror y = toldAll();
        for (int k = 0; k < 30; k++) {
            int unknown = k % 15;
            int trials = x.many(9);
            Checks.due(answer(z -> z.claim(0, unknown, 1), y), () -> String.valueOf(x.claim(0, unknown, 1)));
            Checks.due(trials + 1, () -> x.many(9));
        }
        Checks.due(y.many(9), () -> x.many(9));
        Checks.due(Looks.all(y), () -> Looks.all(x));
        // One object is told nothing by what another one is told.
        Moonmirror empty = new Moonmirror();
        Checks.due(new Moonmirror().digest(), () -> empty.digest());
    }

    public static void main(String[] args) {
        besideEachOther();
        inAnyOrder();
        claimsAreCounted();
        Checks.end();
    }
}
