import java.util.Arrays;
import java.util.Map;
import java.util.Random;
import java.util.TreeMap;
import java.util.function.Supplier;

/** Long runs of calls drawn from fixed seeds, right and wrong ones, against the literal Reference. */
public final class RandomRunsTest {
    private static final int RUNS = 400;
    private static final int CALLS = 220;

    /** How often each thing happened that the runs must not go without. */
    private static final Map<String, Integer> SEEN = new TreeMap<>();

    private final Random random;
    private final BrakeCurve x = new BrakeCurve();
    private final Reference r = new Reference();
    private final String run;
    /** A wild run begins with sections of all kinds, another one with the line as it is. */
    private final boolean isWild;

    private RandomRunsTest(int seed) {
        random = new Random(seed);
        run = "run " + seed;
        isWild = seed % 3 != 0;
    }

    public static void main(String[] args) {
        for (int seed = 0; seed < RUNS; seed++) {
            new RandomRunsTest(seed).go();
        }
        for (String thing : new String[] {"works -2", "works -3", "works 1", "works 3", "why 0", "why 1", "why 2", "why 3",
            "why 4", "why -1", "crashed", "crashed and left",
            "left behind one that crashed", "overrun", "missed", "stopped", "left", "closest below 0",
            "closest above 0", "lost below 0", "lost above 0", "worksIn later", "worksIn never", "reaches later",
            "reaches never", "refused 1", "refused 2", "refused 3", "four trains"}) {
            Check.isTrue("the runs saw: " + thing, SEEN.containsKey(thing));
        }
        if (args.length > 0) {
            System.out.println(SEEN);
        }
        Check.end("RandomRunsTest");
    }

    private static void saw(String thing) {
        SEEN.merge(thing, 1, Integer::sum);
    }

    private int from(int least, int greatest) {
        return least + random.nextInt(greatest - least + 1);
    }

    private int oneOf(int... values) {
        return values[random.nextInt(values.length)];
    }

    private boolean isRare(int one) {
        return random.nextInt(one) == 0;
    }

    private int train() {
        return isRare(30) ? oneOf(-1, 4, r.trains.size(), Integer.MIN_VALUE, Integer.MAX_VALUE)
                : random.nextInt(Math.max(1, r.trains.size()));
    }

    private int section() {
        return isRare(40) ? oneOf(-1, 20, Integer.MIN_VALUE, Integer.MAX_VALUE) : from(0, 19);
    }

    private int within(int least, int greatest) {
        return isRare(40) ? oneOf(least - 1, greatest + 1, Integer.MIN_VALUE, Integer.MAX_VALUE)
                : isRare(8) ? oneOf(least, greatest) : from(least, greatest);
    }

    private void go() {
        if (isRare(5)) {
            prepareCrash();
        } else {
            prepare();
        }
        for (int i = 0; i < CALLS; i++) {
            int kind = random.nextInt(100);
            if (kind < 34) {
                tell();
            } else if (kind < 75) {
                ask();
            } else {
                wonder();
            }
        }
        call("digest", x::digest, r::digest);
        notice();
    }

    private void prepare() {
        for (int i = from(0, 4); i > 0; i--) {
            station(isRare(3) ? from(0, 300) : within(0, 2999), within(0, 60));
        }
        for (int i = from(0, 6); i > 0 && isWild; i--) {
            section(from(0, 19), oneOf(40, 40, 30, 12, 3, 1), oneOf(2, 0, -2), random.nextBoolean());
        }
    }

    /** A fast train behind a slow one at the end of the line, where the grade turns as they meet. */
    private void prepareCrash() {
        for (int s = 0; s < 20; s++) {
            section(s, s == 19 ? from(1, 3) : 40, 2, true);
        }
        tellTrain(20, 4, 3, false);
        pass(from(22, 54));
        tellTrain(20, 4, 3, false);
        pass(from(72, 80));
        for (int s = 17; s < 20; s++) {
            section(s, r.ways.get(s).limit, -2, true);
        }
        for (int i = 0; i < 30; i++) {
            pass(1);
            ask();
        }
    }

    private void notice() {
        for (Reference.Train t : r.trains) {
            note(t.crashed, "crashed");
            note(t.crashed && t.left, "crashed and left");
            note(t.left && r.ahead(t) != null, "left behind one that crashed");
            note(t.left, "left");
            note(t.overrun > 0, "overrun");
            note(t.missed > 0, "missed");
        }
        note(r.stations.stream().anyMatch(s -> s.stopped > 0), "stopped");
        note(r.trains.size() == 4, "four trains");
    }

    private void note(boolean is, String thing) {
        if (is) {
            saw(thing);
        }
    }

    private void tell() {
        switch (random.nextInt(10)) {
            case 0 -> section(section(), isWild ? within(1, 40) : within(30, 40), within(-2, 2), !isRare(3));
            case 1 -> station(within(0, 2999), within(0, 60));
            case 2, 3 -> tellTrain(isRare(2) ? from(20, 40) : within(20, 200), within(1, 4), within(1, 3), !isRare(3));
            case 4 -> {
                int t = train();
                boolean is = random.nextBoolean();
                call("whole", () -> x.whole(t, is) ? 1L : 0L, () -> r.whole(t, is) ? 1L : 0L, t);
            }
            case 5 -> works();
            case 6 -> {
                int w = isRare(6) ? oneOf(-1, 3, Integer.MAX_VALUE) : from(0, 2);
                call("end", () -> (long) x.end(w), () -> (long) r.end(w), w);
            }
            default -> pass(isRare(20) ? within(1, 300) : from(1, 25));
        }
    }

    private void section(int s, int limit, int grade, boolean radio) {
        call("section", () -> (long) x.section(s, limit, grade, radio), () -> (long) r.section(s, limit, grade, radio),
                s, limit, grade);
    }

    private void station(int metre, int dwell) {
        call("station", () -> (long) x.station(metre, dwell), () -> (long) r.station(metre, dwell), metre, dwell);
    }

    private void pass(int seconds) {
        call("pass", () -> (long) x.pass(seconds), () -> (long) r.pass(seconds), seconds);
    }

    private void tellTrain(int length, int brake, int pull, boolean stopping) {
        call("train", () -> (long) x.train(length, brake, pull, stopping),
                () -> (long) r.train(length, brake, pull, stopping), length, brake, pull);
    }

    private void works() {
        int first = section();
        int last = isRare(10) ? section() : Math.min(19, first + from(0, 3));
        long got = call("works", () -> (long) x.works(first, last), () -> (long) r.works(first, last), first, last);
        saw("works " + got);
    }

    private void ask() {
        int t = train();
        int s = section();
        switch (random.nextInt(9)) {
            case 0 -> {
                int what = within(0, 4);
                call("ofSection", () -> (long) x.ofSection(s, what), () -> (long) r.ofSection(s, what), s, what);
            }
            case 1, 2 -> {
                int what = within(0, 15);
                call("ofTrain", () -> (long) x.ofTrain(t, what), () -> (long) r.ofTrain(t, what), t, what);
            }
            case 3 -> {
                int speed = within(0, 40);
                call("stops", () -> (long) x.stops(t, speed), () -> (long) r.stops(t, speed), t, speed);
            }
            case 4 -> call("may", () -> (long) x.may(t), () -> (long) r.may(t), t);
            case 5 -> saw("why " + call("why", () -> (long) x.why(t), () -> (long) r.why(t), t));
            case 6 -> {
                int station = within(0, 3);
                int what = within(0, 2);
                call("ofStation", () -> (long) x.ofStation(station, what), () -> (long) r.ofStation(station, what),
                        station, what);
            }
            case 7 -> {
                int what = within(0, 9);
                call("many", () -> (long) x.many(what), () -> (long) r.many(what), what);
            }
            default -> Check.due(run + " meanSpeed", (Object) r.meanSpeed(), (Object) x.meanSpeed());
        }
    }

    private void wonder() {
        int t = train();
        int s = section();
        switch (random.nextInt(9)) {
            case 0, 1 -> {
                int metre = within(0, 2999);
                int seconds = within(1, isRare(4) ? 600 : 60);
                long got = call("reaches", () -> (long) x.reaches(t, metre, seconds),
                        () -> (long) r.reaches(t, metre, seconds), t, metre, seconds);
                saw("reaches " + (got > 0 ? "later" : got < 0 ? "never" : "now"));
            }
            case 2, 3, 4 -> {
                int seconds = within(1, 120);
                long got = call("closest", () -> (long) x.closest(t, seconds), () -> (long) r.closest(t, seconds), t,
                        seconds);
                saw("closest " + (got > 0 ? "above 0" : got < -1 ? "below 0" : "other"));
            }
            case 5, 6 -> {
                int limit = within(1, 40);
                int seconds = within(1, 300);
                long got = call("lost", () -> (long) x.lost(t, s, limit, seconds),
                        () -> (long) r.lost(t, s, limit, seconds), t, s, limit, seconds);
                saw("lost " + (got > 0 ? "above 0" : got < 0 ? "below 0" : "0"));
            }
            case 7 -> {
                int last = isRare(10) ? section() : Math.min(19, s + from(0, 5));
                int seconds = within(1, isRare(3) ? 300 : 40);
                long got = call("worksIn", () -> (long) x.worksIn(s, last, seconds),
                        () -> (long) r.worksIn(s, last, seconds), s, last, seconds);
                saw("worksIn " + (got > 0 ? "later" : got < 0 ? "never" : "now"));
            }
            default -> {
                if (isRare(4)) {
                    call("digest", x::digest, r::digest);
                }
            }
        }
    }

    /** Makes the call on both, and answers what was due (or -99, if a refusal was). */
    private long call(String name, Supplier<Long> made, Supplier<Long> due, int... arguments) {
        int refusal = name.equals("digest") ? 0 : r.refusal(name, arguments);
        int thrown = 0;
        long got = -99;
        try {
            got = made.get();
        } catch (RuntimeException e) {
            thrown = e.getClass() == IndexOutOfBoundsException.class ? 1
                    : e.getClass() == IllegalArgumentException.class ? 2
                    : e.getClass() == IllegalStateException.class ? 3 : 4;
        }
        String what = run + " " + name + Arrays.toString(arguments);
        Check.due(what + " throws", refusal, thrown);
        if (refusal != 0) {
            saw("refused " + refusal);
            return -99;
        }
        long want = due.get();
        Check.due(what, want, got);
        return want;
    }
}
