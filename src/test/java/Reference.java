import java.util.ArrayList;
import java.util.List;
import java.util.TreeSet;

/**
 * The document once more, written as literally as can be and without a thought of cost, for RandomRunsTest to compare
 * with. Its calls are made with right arguments alone; what the document refuses, refusal() tells.
 */
final class Reference {
    static final class Way {
        int limit = 40;
        int grade = 0;
        boolean radio = true;
    }

    static final class Stop {
        int metre;
        int dwell;
        int stopped;
    }

    static final class Train {
        int length;
        int brake;
        int pull;
        int head;
        int speed;
        int authority;
        int dwellLeft;
        boolean whole = true;
        boolean left;
        boolean crashed;
        List<Integer> toCome = new ArrayList<>();
        int knownHead;
        int knownRear;
        int reported;
        int braked;
        int overrun;
        int missed;
        int gone;
        TreeSet<Integer> gaps = new TreeSet<>();

        int rear() {
            return head - length + 1;
        }
    }

    final List<Way> ways = new ArrayList<>();
    final List<Stop> stations = new ArrayList<>();
    final List<int[]> works = new ArrayList<>();
    final List<Train> trains = new ArrayList<>();
    int now = 0;

    Reference() {
        for (int i = 0; i < 20; i++) {
            ways.add(new Way());
        }
    }

    Reference copy() {
        Reference r = new Reference();
        for (int i = 0; i < 20; i++) {
            r.ways.get(i).limit = ways.get(i).limit;
            r.ways.get(i).grade = ways.get(i).grade;
            r.ways.get(i).radio = ways.get(i).radio;
        }
        for (Stop s : stations) {
            Stop t = new Stop();
            t.metre = s.metre;
            t.dwell = s.dwell;
            t.stopped = s.stopped;
            r.stations.add(t);
        }
        for (int[] w : works) {
            r.works.add(w.clone());
        }
        for (Train a : trains) {
            Train b = new Train();
            b.length = a.length;
            b.brake = a.brake;
            b.pull = a.pull;
            b.head = a.head;
            b.speed = a.speed;
            b.authority = a.authority;
            b.dwellLeft = a.dwellLeft;
            b.whole = a.whole;
            b.left = a.left;
            b.crashed = a.crashed;
            b.toCome = new ArrayList<>(a.toCome);
            b.knownHead = a.knownHead;
            b.knownRear = a.knownRear;
            b.reported = a.reported;
            b.braked = a.braked;
            b.overrun = a.overrun;
            b.missed = a.missed;
            b.gone = a.gone;
            b.gaps = new TreeSet<>(a.gaps);
            r.trains.add(b);
        }
        r.now = now;
        return r;
    }

    static int sectionOf(int metre) {
        return Math.min(19, metre / 150);
    }

    TreeSet<Integer> sectionsOf(Train t) {
        TreeSet<Integer> all = new TreeSet<>();
        for (int metre = t.rear(); metre <= t.head; metre++) {
            all.add(sectionOf(metre));
        }
        return all;
    }

    Train ahead(Train t) {
        int i = trains.indexOf(t);
        return i == 0 || trains.get(i - 1).left ? null : trains.get(i - 1);
    }

    int hold(Train t) {
        return Math.max(1, t.brake + ways.get(sectionOf(t.head)).grade);
    }

    int stop(Train t, int v) {
        return v + -Math.floorDiv(-(v * (v - 1)), 2 * hold(t));
    }

    int mayOf(Train t) {
        int limit = sectionsOf(t).stream().mapToInt(s -> ways.get(s).limit).min().getAsInt();
        int best = 0;
        for (int v = 0; v <= limit; v++) {
            boolean can = stop(t, v) <= t.authority - t.head;
            if (!t.toCome.isEmpty()) {
                can &= stop(t, v) <= stations.get(t.toCome.get(0)).metre - t.head;
            }
            best = can ? v : best;
        }
        return best;
    }

    /** What its authority would be made by, and the least of all. */
    int[] bound(Train t) {
        List<int[]> bounds = new ArrayList<>();
        bounds.add(new int[] {0, 2999 + t.length});
        Train ahead = ahead(t);
        if (ahead != null && now - ahead.reported <= 3) {
            bounds.add(new int[] {1, ahead.knownRear - 10});
        } else if (ahead != null) {
            bounds.add(new int[] {2, sectionOf(ahead.knownRear) * 150 - 1});
        }
        for (int[] w : works) {
            if (w[0] * 150 > t.head) {
                bounds.add(new int[] {3, w[0] * 150 - 1});
            }
        }
        int[] least = bounds.get(0);
        for (int[] b : bounds) {
            least = b[1] < least[1] ? b : least;
        }
        return least[1] < t.head ? new int[] {4, t.head} : least;
    }

    List<Train> present() {
        return trains.stream().filter(t -> !t.left).toList();
    }

    int second(Train standing) {
        now++;
        for (Train t : present()) {
            if (ways.get(sectionOf(t.head)).radio && t != standing) {
                t.knownHead = t.head;
                t.knownRear = t.whole ? t.rear() : t.knownRear;
                t.reported = now;
            }
        }
        for (Train t : present()) {
            if (ways.get(sectionOf(t.head)).radio) {
                t.authority = bound(t)[1];
            }
        }
        for (Train t : present()) {
            if (!t.crashed && t != standing) {
                going(t);
            }
        }
        for (Train t : present()) {
            if (t.head > t.authority) {
                t.overrun++;
            }
            Train ahead = ahead(t);
            if (ahead != null) {
                int gap = ahead.rear() - t.head - 1;
                t.gaps.add(gap);
                if (gap < 0) {
                    t.crashed = true;
                    ahead.crashed = true;
                    t.speed = 0;
                    ahead.speed = 0;
                }
            }
        }
        int left = 0;
        for (Train t : present()) {
            if (t.rear() > 2999) {
                t.left = true;
                t.speed = 0;
                left++;
            }
        }
        return left;
    }

    private void going(Train t) {
        if (t.dwellLeft > 0) {
            t.dwellLeft--;
            return;
        }
        int may = mayOf(t);
        if (t.speed < may) {
            t.speed = Math.min(may, t.speed + t.pull);
        } else if (t.speed > may) {
            t.speed = Math.max(may, t.speed - hold(t));
            t.braked++;
        }
        t.head += t.speed;
        t.gone += t.speed;
        if (!t.toCome.isEmpty() && stations.get(t.toCome.get(0)).metre == t.head && t.speed == 0) {
            Stop stop = stations.get(t.toCome.remove(0));
            t.dwellLeft = stop.dwell;
            stop.stopped++;
        }
        while (!t.toCome.isEmpty() && stations.get(t.toCome.get(0)).metre < t.head) {
            t.toCome.remove(0);
            t.missed++;
        }
    }

    /** 0 nothing, 1 no such index, 2 no such argument, 3 not in this state. */
    int refusal(String call, int... a) {
        int index = 0;
        boolean argument = false;
        boolean state = false;
        switch (call) {
            case "section" -> {
                index = noSection(a[0]);
                argument = out(a[1], 1, 40) || out(a[2], -2, 2);
            }
            case "station" -> {
                argument = out(a[0], 0, 2999) || out(a[1], 0, 60) || stations.stream().anyMatch(s -> s.metre == a[0]);
                state = stations.size() == 4 || !present().isEmpty();
            }
            case "train" -> {
                argument = out(a[0], 20, 200) || out(a[1], 1, 4) || out(a[2], 1, 3);
                state = trains.size() == 4 || present().stream().anyMatch(t -> t.rear() <= a[0]);
            }
            case "whole", "may", "why" -> index = noTrain(a[0]);
            case "works" -> {
                index = noSection(a[0]) + noSection(a[1]);
                argument = a[1] < a[0];
                state = works.size() == 3;
            }
            case "end" -> index = out(a[0], 0, works.size() - 1) ? 1 : 0;
            case "pass" -> argument = out(a[0], 1, 300);
            case "ofSection" -> {
                index = noSection(a[0]);
                argument = out(a[1], 0, 4);
            }
            case "ofTrain" -> {
                index = noTrain(a[0]);
                argument = out(a[1], 0, 15);
            }
            case "stops" -> {
                index = noTrain(a[0]);
                argument = out(a[1], 0, 40);
            }
            case "ofStation" -> {
                index = out(a[0], 0, stations.size() - 1) ? 1 : 0;
                argument = out(a[1], 0, 2);
            }
            case "many" -> argument = out(a[0], 0, 9);
            case "reaches" -> {
                index = noTrain(a[0]);
                argument = out(a[1], 0, 2999) || out(a[2], 1, 600);
            }
            case "closest" -> {
                index = noTrain(a[0]);
                argument = out(a[1], 1, 120);
            }
            case "lost" -> {
                index = noTrain(a[0]) + noSection(a[1]);
                argument = out(a[2], 1, 40) || out(a[3], 1, 300);
            }
            case "worksIn" -> {
                index = noSection(a[0]) + noSection(a[1]);
                argument = a[1] < a[0] || out(a[2], 1, 300);
            }
            default -> throw new AssertionError(call);
        }
        return index > 0 ? 1 : argument ? 2 : state ? 3 : 0;
    }

    private static boolean out(int v, int least, int greatest) {
        return v < least || v > greatest;
    }

    private static int noSection(int s) {
        return out(s, 0, 19) ? 1 : 0;
    }

    private int noTrain(int t) {
        return out(t, 0, trains.size() - 1) ? 1 : 0;
    }

    int section(int s, int limit, int grade, boolean radio) {
        Way way = ways.get(s);
        int before = way.limit;
        way.limit = limit;
        way.grade = grade;
        way.radio = radio;
        return before;
    }

    int station(int metre, int dwell) {
        Stop s = new Stop();
        s.metre = metre;
        s.dwell = dwell;
        stations.add(s);
        return stations.size() - 1;
    }

    int train(int length, int brake, int pull, boolean stopping) {
        Train t = new Train();
        t.length = length;
        t.brake = brake;
        t.pull = pull;
        t.head = length - 1;
        t.authority = t.head;
        t.knownHead = t.head;
        t.knownRear = 0;
        t.reported = now;
        for (int i = 0; i < stations.size(); i++) {
            if (stopping && stations.get(i).metre >= t.head) {
                t.toCome.add(i);
            }
        }
        t.toCome.sort((a, b) -> stations.get(a).metre - stations.get(b).metre);
        trains.add(t);
        return trains.size() - 1;
    }

    boolean whole(int i, boolean is) {
        boolean was = trains.get(i).whole;
        trains.get(i).whole = is;
        return was;
    }

    int hindrance(int first, int last) {
        for (Train t : present()) {
            if (sectionsOf(t).stream().anyMatch(s -> s >= first && s <= last)) {
                return -2;
            }
        }
        for (Train t : present()) {
            if (t.head < first * 150 && t.authority >= first * 150) {
                return -3;
            }
        }
        return 0;
    }

    int works(int first, int last) {
        int hindrance = hindrance(first, last);
        if (hindrance == 0) {
            works.add(new int[] {first, last});
            return works.size();
        }
        return hindrance;
    }

    int end(int w) {
        works.remove(w);
        return works.size();
    }

    int pass(int seconds) {
        int left = 0;
        for (int i = 0; i < seconds; i++) {
            left += second(null);
        }
        return left;
    }

    int ofSection(int s, int what) {
        return new int[] {ways.get(s).limit, ways.get(s).grade, ways.get(s).radio ? 1 : 0,
            (int) present().stream().filter(t -> sectionsOf(t).contains(s)).count(),
            works.stream().anyMatch(w -> w[0] <= s && s <= w[1]) ? 1 : 0}[what];
    }

    int ofTrain(int i, int what) {
        Train t = trains.get(i);
        return new int[] {t.head, t.rear(), t.speed, t.authority, t.whole ? 1 : 0, t.dwellLeft,
            t.toCome.isEmpty() ? -1 : t.toCome.get(0), t.left ? 1 : t.crashed ? 2 : 0, t.knownHead, t.knownRear,
            t.reported, t.braked, t.overrun, t.missed, t.gaps.isEmpty() ? -1 : t.gaps.first(),
            ahead(t) == null ? -1 : i - 1}[what];
    }

    int stops(int i, int v) {
        return stop(trains.get(i), v);
    }

    int may(int i) {
        return trains.get(i).left ? 0 : mayOf(trains.get(i));
    }

    int why(int i) {
        return trains.get(i).left ? -1 : bound(trains.get(i))[0];
    }

    int ofStation(int s, int what) {
        return new int[] {stations.get(s).metre, stations.get(s).dwell, stations.get(s).stopped}[what];
    }

    int many(int what) {
        return new int[] {now, trains.size(), (int) trains.stream().filter(t -> t.left).count(),
            (int) trains.stream().filter(t -> t.crashed).count(), stations.size(), works.size(),
            trains.stream().mapToInt(t -> t.braked).sum(), trains.stream().mapToInt(t -> t.overrun).sum(),
            trains.stream().mapToInt(t -> t.missed).sum(), trains.stream().mapToInt(t -> t.gone).sum()}[what];
    }

    double meanSpeed() {
        return present().stream().mapToInt(t -> t.speed).average().orElse(0);
    }

    int reaches(int i, int metre, int seconds) {
        Reference r = copy();
        for (int n = 0; n <= seconds; n++) {
            if (r.trains.get(i).head >= metre) {
                return n;
            }
            r.second(null);
        }
        return -1;
    }

    int closest(int i, int seconds) {
        if (trains.get(i).left || ahead(trains.get(i)) == null) {
            return -1;
        }
        Reference r = copy();
        Train t = r.trains.get(i);
        Train ahead = r.ahead(t);
        ahead.speed = 0;
        t.gaps.clear();
        for (int n = 0; n < seconds; n++) {
            r.second(ahead);
        }
        return t.gaps.first();
    }

    int lost(int i, int s, int limit, int seconds) {
        Reference a = copy();
        Reference b = copy();
        b.ways.get(s).limit = limit;
        a.pass(seconds);
        b.pass(seconds);
        return a.trains.get(i).gone - b.trains.get(i).gone;
    }

    int worksIn(int first, int last, int seconds) {
        Reference r = copy();
        for (int n = 0; n <= seconds; n++) {
            if (r.hindrance(first, last) == 0) {
                return n;
            }
            r.second(null);
        }
        return -1;
    }

    long digest() {
        List<Integer> all = new ArrayList<>();
        for (int what = 0; what <= 9; what++) {
            all.add(many(what));
        }
        for (int s = 0; s < 20; s++) {
            for (int what = 0; what <= 4; what++) {
                all.add(ofSection(s, what));
            }
        }
        for (int i = 0; i < trains.size(); i++) {
            for (int what = 0; what <= 15; what++) {
                all.add(ofTrain(i, what));
            }
            all.addAll(List.of(stops(i, 20), may(i), why(i), reaches(i, 2000, 90), closest(i, 30)));
        }
        for (int s = 0; s < stations.size(); s++) {
            for (int what = 0; what <= 2; what++) {
                all.add(ofStation(s, what));
            }
        }
        all.add(worksIn(5, 6, 60));
        long d = 4810;
        for (int v : all) {
            d = d * 31 + v;
        }
        return d;
    }
}
