import java.util.function.IntSupplier;

/** Promises 17 to 21: what would be, where nothing is changed. The numbers are worked out by hand. */
public final class WouldBeTest {
    private static final int MIN = Integer.MIN_VALUE;
    private static final int MAX = Integer.MAX_VALUE;

    public static void main(String[] args) {
        promise17Reaches();
        promise17ReachesWithStationsAndWorks();
        promise17ReachesWithWhatIsKnown();
        promise17ReachesRefused();
        promise18Closest();
        promise18ClosestInTheseSecondsAlone();
        promise18ClosestOfNone();
        promise18ClosestRefused();
        promise19Lost();
        promise19LostByTheOneAhead();
        promise19LostRefused();
        promise20WorksIn();
        promise20WorksInByAnAuthority();
        promise20WorksInRefused();
        promise21Digest();
        promise21DigestOfEachSecond();
        Check.end("WouldBeTest");
    }

    private static BrakeCurve line(int limit) {
        BrakeCurve x = new BrakeCurve();
        for (int section = 0; section < 20; section++) {
            x.section(section, limit, 0, true);
        }
        return x;
    }

    /** The answer is due, twice, and the object is as before. */
    private static void asked(String what, BrakeCurve x, int due, IntSupplier question) {
        long before = x.digest();
        Check.due(what, due, question.getAsInt());
        Check.due(what + ", again", due, question.getAsInt());
        Check.due(what + " changes nothing", before, x.digest());
    }

    private static void promise17Reaches() {
        BrakeCurve x = new BrakeCurve();
        x.train(20, 4, 1, false);
        // 20, 22, 25, 29
        asked("17: it is there", x, 0, () -> x.reaches(0, 19, 1));
        asked("17: it is beyond it", x, 0, () -> x.reaches(0, 0, 600));
        asked("17: one second", x, 1, () -> x.reaches(0, 20, 1));
        asked("17: beyond it", x, 2, () -> x.reaches(0, 21, 2));
        asked("17: not within one", x, -1, () -> x.reaches(0, 21, 1));
        asked("17: at it", x, 2, () -> x.reaches(0, 22, 2));
        asked("17: not within two", x, -1, () -> x.reaches(0, 23, 2));
        asked("17: within more", x, 4, () -> x.reaches(0, 26, 600));
        x.pass(300);
        Check.due("17: it has left", 1, x.many(2));
        asked("17: it was there", x, 0, () -> x.reaches(0, 2999, 1));
        BrakeCurve y = line(5);
        y.train(20, 4, 1, false);
        // 19 and 1, 2, 3, 4 are 29; 594 times 5 are 2970
        asked("17: the end of the line", y, 598, () -> y.reaches(0, 2999, 600));
        asked("17: the end of the line", y, 598, () -> y.reaches(0, 2999, 598));
        asked("17: the end of the line", y, -1, () -> y.reaches(0, 2999, 597));
    }

    private static void promise17ReachesWithStationsAndWorks() {
        BrakeCurve x = line(1);
        x.station(25, 7);
        x.works(1, 1);
        x.train(20, 4, 1, true);
        asked("17: the station", x, 6, () -> x.reaches(0, 25, 600));
        // it stops in second 7, and stands 7 more
        asked("17: beyond the station", x, 15, () -> x.reaches(0, 26, 600));
        asked("17: ahead of the works", x, 138, () -> x.reaches(0, 149, 600));
        asked("17: in the works", x, -1, () -> x.reaches(0, 150, 600));
        x.end(0);
        asked("17: where they were", x, 139, () -> x.reaches(0, 150, 600));
        Check.due("17: nobody stopped", 0, x.ofStation(0, 2));
    }

    private static void promise17ReachesWithWhatIsKnown() {
        BrakeCurve x = line(1);
        x.section(0, 1, 0, false);
        x.train(20, 4, 1, false);
        asked("17: without radio it has no way", x, -1, () -> x.reaches(0, 20, 600));
        BrakeCurve y = line(1);
        y.station(25, 7);
        y.train(20, 4, 1, true);
        y.pass(10);
        Check.due("17: dwell left", 4, y.ofTrain(0, 5));
        asked("17: it stands 4 more", y, 5, () -> y.reaches(0, 26, 600));
        asked("17: and its rear goes from 6 to 150 then", y, 4 + 144, () -> y.worksIn(0, 0, 300));
        BrakeCurve z = line(1);
        z.train(20, 4, 1, false);
        z.pass(100);
        z.whole(0, false);
        z.train(20, 4, 1, false);
        asked("17: to the rear as it is known, 99, less 10", z, 70, () -> z.reaches(1, 89, 600));
        asked("17: and no farther", z, -1, () -> z.reaches(1, 90, 600));
        z.whole(0, true);
        asked("17: unless it is known again", z, 71, () -> z.reaches(1, 90, 600));
    }

    private static void promise17ReachesRefused() {
        BrakeCurve x = new BrakeCurve();
        x.train(20, 4, 1, false);
        for (int train : new int[] {-1, 1, MIN, MAX}) {
            Check.noIndex("17: train " + train, x, () -> x.reaches(train, 0, 1));
            Check.noIndex("17: first of all, train " + train, x, () -> x.reaches(train, 3000, 0));
        }
        for (int metre : new int[] {-1, 3000, MIN, MAX}) {
            Check.noArgument("17: metre " + metre, x, () -> x.reaches(0, metre, 1));
        }
        for (int seconds : new int[] {0, 601, -1, MIN, MAX}) {
            Check.noArgument("17: seconds " + seconds, x, () -> x.reaches(0, 0, seconds));
        }
    }

    /** The one ahead stands with its rear at 200, and was known at 199 last. */
    private static void promise18Closest() {
        BrakeCurve x = line(1);
        x.train(20, 4, 1, false);
        x.pass(200);
        for (int section = 0; section < 20; section++) {
            x.section(section, 40, 0, true);
        }
        x.train(20, 4, 3, false);
        asked("18: 22", x, 177, () -> x.closest(1, 1));
        asked("18: 28", x, 171, () -> x.closest(1, 2));
        asked("18: by its section in the end, so that it stops at 149", x, 50, () -> x.closest(1, 120));
        Check.due("18: the known rear", 199, x.ofTrain(0, 9));
        Check.due("18: it had none", -1, x.ofTrain(1, 14));
    }

    private static void promise18ClosestInTheseSecondsAlone() {
        BrakeCurve x = line(1);
        x.train(20, 4, 1, false);
        x.pass(21);
        x.train(20, 4, 1, false);
        x.pass(1);
        Check.due("18: 22 less 19, and less 1", 2, x.ofTrain(1, 14));
        Check.due("18: its head is above the least of its ways", 4, x.why(1));
        // it goes in second 31, as the rear is known at 30, and is 10 behind from then on
        x.pass(100);
        Check.due("18: its head", 111, x.ofTrain(1, 0));
        Check.due("18: the least ever", 2, x.ofTrain(1, 14));
        asked("18: the least in one second", x, 10, () -> x.closest(1, 1));
        asked("18: the least in 120 seconds", x, 10, () -> x.closest(1, 120));
        Check.due("18: the one ahead goes on", 99, x.reaches(1, 210, 600));
    }

    private static void promise18ClosestOfNone() {
        BrakeCurve x = new BrakeCurve();
        x.train(20, 4, 3, false);
        asked("18: none ahead", x, -1, () -> x.closest(0, 120));
        x.pass(50);
        x.train(20, 4, 3, false);
        x.pass(1);
        Check.isTrue("18: one ahead", x.closest(1, 10) > 0);
        x.pass(60);
        Check.due("18: it has left", 1, x.many(2));
        asked("18: none ahead any more", x, -1, () -> x.closest(1, 120));
        x.pass(300);
        asked("18: itself has left", x, -1, () -> x.closest(1, 1));
    }

    private static void promise18ClosestRefused() {
        BrakeCurve x = new BrakeCurve();
        x.train(20, 4, 1, false);
        for (int train : new int[] {-1, 1, MIN, MAX}) {
            Check.noIndex("18: train " + train, x, () -> x.closest(train, 1));
            Check.noIndex("18: first of all, train " + train, x, () -> x.closest(train, 0));
        }
        for (int seconds : new int[] {0, 121, -1, MIN, MAX}) {
            Check.noArgument("18: seconds " + seconds, x, () -> x.closest(0, seconds));
        }
    }

    private static void promise19Lost() {
        BrakeCurve x = new BrakeCurve();
        x.train(20, 4, 1, false);
        // 1, 2, .. 9 are 45; with limit 1 they are 9, with limit 5 they are 35
        asked("19: limit 1", x, 36, () -> x.lost(0, 0, 1, 9));
        asked("19: limit 5", x, 10, () -> x.lost(0, 0, 5, 9));
        asked("19: limit 9", x, 0, () -> x.lost(0, 0, 9, 9));
        asked("19: another section", x, 0, () -> x.lost(0, 1, 1, 9));
        asked("19: one second", x, 0, () -> x.lost(0, 0, 1, 1));
        x.section(0, 2, 0, true);
        // 1 and 8 times 2 are 17
        asked("19: more with limit 3: 1, 2 and 7 times 3", x, -7, () -> x.lost(0, 0, 3, 9));
        asked("19: more with limit 40", x, -28, () -> x.lost(0, 0, 40, 9));
        asked("19: the limit that it has", x, 0, () -> x.lost(0, 0, 2, 300));
        Check.due("19: the limit stays", 2, x.ofSection(0, 0));
        x.pass(300);
        x.pass(300);
        Check.due("19: it has left", 1, x.many(2));
        asked("19: nothing any more", x, 0, () -> x.lost(0, 19, 1, 300));
    }

    private static void promise19LostByTheOneAhead() {
        BrakeCurve x = line(2);
        x.train(20, 4, 1, false);
        x.pass(100);
        Check.due("19: its head", 218, x.ofTrain(0, 0));
        x.train(20, 4, 1, false);
        // the one ahead goes 1 a second from its head at 300 on, but its rear is far away
        asked("19: the one behind is not held up within 60", x, 0, () -> x.lost(1, 2, 1, 60));
        BrakeCurve y = line(2);
        y.train(20, 4, 1, false);
        y.pass(20);
        Check.due("19: its rear", 39, y.ofTrain(0, 1));
        y.section(0, 40, 0, true);
        y.train(20, 4, 3, false);
        int asItIs = y.lost(1, 1, 2, 20);
        Check.due("19: the limit that it has", 0, asItIs);
        Check.isTrue("19: one ahead that goes slower holds it up", y.lost(1, 1, 1, 100) > 0);
        Check.isTrue("19: one ahead that goes faster gives way", y.lost(1, 1, 40, 100) < 0);
    }

    private static void promise19LostRefused() {
        BrakeCurve x = new BrakeCurve();
        x.train(20, 4, 1, false);
        for (int train : new int[] {-1, 1, MIN, MAX}) {
            Check.noIndex("19: train " + train, x, () -> x.lost(train, 0, 1, 1));
            Check.noIndex("19: first of all, train " + train, x, () -> x.lost(train, 0, 0, 0));
        }
        for (int section : new int[] {-1, 20, MIN, MAX}) {
            Check.noIndex("19: section " + section, x, () -> x.lost(0, section, 1, 1));
            Check.noIndex("19: first of all, section " + section, x, () -> x.lost(0, section, 41, 301));
        }
        for (int limit : new int[] {0, 41, -1, MIN, MAX}) {
            Check.noArgument("19: limit " + limit, x, () -> x.lost(0, 0, limit, 1));
        }
        for (int seconds : new int[] {0, 301, -1, MIN, MAX}) {
            Check.noArgument("19: seconds " + seconds, x, () -> x.lost(0, 0, 1, seconds));
        }
    }

    private static void promise20WorksIn() {
        BrakeCurve x = line(1);
        asked("20: now", x, 0, () -> x.worksIn(0, 19, 1));
        x.train(20, 4, 1, false);
        // its rear is at 150 after 150 seconds, at 300 after 300
        asked("20: a train there", x, 150, () -> x.worksIn(0, 0, 300));
        asked("20: a train there", x, 150, () -> x.worksIn(0, 0, 150));
        asked("20: not within these", x, -1, () -> x.worksIn(0, 0, 149));
        asked("20: both sections", x, 300, () -> x.worksIn(0, 1, 300));
        asked("20: not within these, either", x, -1, () -> x.worksIn(0, 1, 299));
        asked("20: its authority is its head as yet", x, 0, () -> x.worksIn(2, 2, 1));
        x.pass(1);
        asked("20: its authority", x, -1, () -> x.worksIn(2, 2, 300));
        asked("20: one second less", x, 149, () -> x.worksIn(0, 0, 300));
        x.works(0, 0);
        x.pass(149);
        Check.due("20: one", 1, x.works(0, 0));
        Check.due("20: two", 2, x.works(0, 0));
        Check.due("20: three", 3, x.works(0, 0));
        asked("20: whether or not there are 3", x, 0, () -> x.worksIn(0, 0, 1));
        asked("20: whether or not there are 3, later", x, 150, () -> x.worksIn(0, 1, 300));
    }

    private static void promise20WorksInByAnAuthority() {
        BrakeCurve x = line(1);
        x.train(20, 4, 1, false);
        x.pass(1);
        asked("20: the authority is beyond until the train is, too", x, 299, () -> x.worksIn(1, 1, 300));
        asked("20: and not before", x, -1, () -> x.worksIn(1, 1, 298));
        BrakeCurve y = line(40);
        y.works(3, 3);
        y.train(20, 4, 3, false);
        y.pass(1);
        asked("20: works end its authority", y, 0, () -> y.worksIn(3, 3, 1));
        asked("20: works end its authority there, too", y, 0, () -> y.worksIn(4, 19, 1));
        asked("20: but not here", y, -1, () -> y.worksIn(2, 3, 300));
    }

    private static void promise20WorksInRefused() {
        BrakeCurve x = new BrakeCurve();
        x.train(20, 4, 1, false);
        for (int section : new int[] {-1, 20, MIN, MAX}) {
            Check.noIndex("20: first " + section, x, () -> x.worksIn(section, 0, 0));
            Check.noIndex("20: last " + section, x, () -> x.worksIn(5, section, 0));
        }
        Check.noArgument("20: turned round", x, () -> x.worksIn(1, 0, 1));
        for (int seconds : new int[] {0, 301, -1, MIN, MAX}) {
            Check.noArgument("20: seconds " + seconds, x, () -> x.worksIn(0, 0, seconds));
        }
    }

    /** The document's sum, from what the object itself answers. */
    private static long sum(BrakeCurve x) {
        long d = 4810;
        for (int what = 0; what <= 9; what++) {
            d = d * 31 + x.many(what);
        }
        for (int section = 0; section < 20; section++) {
            for (int what = 0; what <= 4; what++) {
                d = d * 31 + x.ofSection(section, what);
            }
        }
        for (int train = 0; train < x.many(1); train++) {
            for (int what = 0; what <= 15; what++) {
                d = d * 31 + x.ofTrain(train, what);
            }
            d = d * 31 + x.stops(train, 20);
            d = d * 31 + x.may(train);
            d = d * 31 + x.why(train);
            d = d * 31 + x.reaches(train, 2000, 90);
            d = d * 31 + x.closest(train, 30);
        }
        for (int station = 0; station < x.many(4); station++) {
            for (int what = 0; what <= 2; what++) {
                d = d * 31 + x.ofStation(station, what);
            }
        }
        return d * 31 + x.worksIn(5, 6, 60);
    }

    /** A line to which so many of ten things have happened. */
    private static BrakeCurve lineAfter(int things) {
        BrakeCurve x = new BrakeCurve();
        x.station(700, 12);
        x.station(300, 3);
        x.section(4, 17, -1, false);
        x.works(17, 18);
        for (int thing = 0; thing < things; thing++) {
            int train = thing / 2;
            if (thing < 8 && thing % 2 == 0) {
                x.train(20 + 30 * train, 4 - train, 3, train % 2 == 0);
                x.pass(3);
            } else if (thing < 8) {
                x.pass(27);
            } else {
                x.pass(300);
            }
            if (thing == 8) {
                x.end(0);
            }
        }
        return x;
    }

    private static void promise21Digest() {
        // as ../shared/tests tells it
        Check.due("21: a new object", 3915586957547882422L, new BrakeCurve().digest());
        for (int things = 0; things <= 10; things++) {
            BrakeCurve x = lineAfter(things);
            Check.due("21: digest", sum(x), x.digest());
        }
    }

    /** Each second of four trains, so that each number that the sum is made of has its turn. */
    private static void promise21DigestOfEachSecond() {
        BrakeCurve x = line(30);
        Reference r = new Reference();
        for (int section = 0; section < 20; section++) {
            r.section(section, 30, 0, true);
        }
        x.station(1400, 9);
        r.station(1400, 9);
        for (int second = 0; second < 240; second++) {
            if (second % 30 == 0 && second < 120) {
                x.train(60, 3, 2, second % 60 == 0);
                r.train(60, 3, 2, second % 60 == 0);
            }
            Check.due("21: digest in second " + second, r.digest(), x.digest());
            x.pass(1);
            r.pass(1);
        }
    }
}
