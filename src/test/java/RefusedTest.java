import java.util.ArrayList;
import java.util.List;
import java.util.function.Supplier;

/**
 * What the document refuses: one below and one above what is allowed, the smallest and the greatest ints, of several
 * exceptions the one that is named first; and that a method that throws changes nothing.
 */
public final class RefusedTest {
    private static final int INDEX = 1;
    private static final int ARGUMENT = 2;
    private static final int STATE = 3;

    private static final int[] NO_SECTIONS = {-1, 20, Lines.MIN, Lines.MAX};

    private interface Call {
        void on(BrakeCurve x);
    }

    private record Refusal(String what, int due, Call call) {
    }

    public static void main(String[] args) {
        refusedByALineWith("nothing on it", BrakeCurve::new, 0, 0, 0);
        refusedByALineWith("all that there may be", Lines::full, 4, 4, 3);
        refusedByALineWith("a train that overruns", () -> Lines.overrun(false), 1, 0, 1);
        refusedByALineWith("two that crashed", Lines::crashed, 2, 1, 0);
        refusedByALineWith("one that will crash", Lines::aheadOfACrash, 2, 1, 0);
        refusedByALineWith("one that left behind one that crashed", () -> Lines.crashedAtTheEnd(51, 75), 2, 0, 0);
        refusedByALineWith("one that has left", () -> Lines.rearAt(3000), 1, 0, 0);
        stateIsNamedLast();
        stateOfStations();
        stateOfTrains();
        stateOfWorks();
        theEdgesThemselvesAreNotRefused();
        Check.end("RefusedTest");
    }

    /** Each refusal, and from time to time what becomes of the line, beside another line that nobody asked. */
    private static void refusedByALineWith(String thing, Supplier<BrakeCurve> made, int trains, int stations,
            int works) {
        List<Refusal> all = new ArrayList<>();
        refusedSections(all);
        refusedByArguments(all, trains, works);
        refusedQuestions(all, stations);
        refusedQuestionsOfTrains(all, trains);
        refusedWorks(all);
        int lines = (all.size() + 149) / 150;
        for (int line = 0; line < lines; line++) {
            BrakeCurve x = made.get();
            BrakeCurve y = made.get();
            for (int i = line; i < all.size(); i += lines) {
                Refusal one = all.get(i);
                Check.due("on a line with " + thing + ": " + one.what, one.due, thrown(x, one.call));
                Check.due("on a line with " + thing + ": " + one.what + " changes nothing", y.digest(), x.digest());
            }
            dueAlike("on a line with " + thing, x, y);
        }
    }

    /** What becomes of both, so that also what no call tells at once is compared. */
    private static void dueAlike(String what, BrakeCurve x, BrakeCurve y) {
        for (int times = 0; times < 12; times++) {
            Check.due(what + ": as many leave", y.pass(9), x.pass(9));
            Check.due(what + ": what becomes of it", y.digest(), x.digest());
        }
        while (y.many(5) > 0 && x.many(5) > 0) {
            Check.due(what + ": works end", y.end(0), x.end(0));
        }
        Check.due(what + ": mean speed", (Object) y.meanSpeed(), (Object) x.meanSpeed());
        Check.due(what + ": all that leave", y.pass(300), x.pass(300));
        Check.due(what + ": in the end", y.digest(), x.digest());
    }

    private static int thrown(BrakeCurve x, Call call) {
        try {
            call.on(x);
        } catch (RuntimeException e) {
            Class<?> kind = e.getClass();
            return kind == IndexOutOfBoundsException.class ? INDEX : kind == IllegalArgumentException.class ? ARGUMENT
                    : kind == IllegalStateException.class ? STATE : -1;
        }
        return 0;
    }

    /** One below the least and one above the greatest, and the ends of all ints. */
    private static int[] beyond(int least, int greatest) {
        return new int[] {least - 1, greatest + 1, Lines.MIN, Lines.MAX};
    }

    private static void refusedSections(List<Refusal> all) {
        for (int section : NO_SECTIONS) {
            all.add(new Refusal("section " + section, INDEX, x -> x.section(section, 5, 1, false)));
            all.add(new Refusal("section " + section + ", limit 0", INDEX, x -> x.section(section, 0, 1, false)));
            all.add(new Refusal("section " + section + ", grade 3", INDEX, x -> x.section(section, 5, 3, false)));
            all.add(new Refusal("ofSection " + section, INDEX, x -> x.ofSection(section, 0)));
            all.add(new Refusal("ofSection " + section + ", 5", INDEX, x -> x.ofSection(section, 5)));
        }
        for (int section : new int[] {0, 19}) {
            for (int limit : beyond(1, 40)) {
                all.add(new Refusal("limit " + limit, ARGUMENT, x -> x.section(section, limit, 1, false)));
            }
            for (int grade : beyond(-2, 2)) {
                all.add(new Refusal("grade " + grade, ARGUMENT, x -> x.section(section, 5, grade, false)));
            }
            for (int what : beyond(0, 4)) {
                all.add(new Refusal("ofSection " + what, ARGUMENT, x -> x.ofSection(section, what)));
            }
        }
    }

    /** Wrong arguments come first also where the state would refuse right ones. */
    private static void refusedByArguments(List<Refusal> all, int trains, int works) {
        for (int metre : beyond(0, 2999)) {
            all.add(new Refusal("station at " + metre, ARGUMENT, x -> x.station(metre, 5)));
        }
        for (int dwell : beyond(0, 60)) {
            all.add(new Refusal("dwell " + dwell, ARGUMENT, x -> x.station(1234, dwell)));
        }
        for (int length : beyond(20, 200)) {
            all.add(new Refusal("length " + length, ARGUMENT, x -> x.train(length, 1, 1, true)));
        }
        for (int brake : beyond(1, 4)) {
            all.add(new Refusal("brake " + brake, ARGUMENT, x -> x.train(20, brake, 1, true)));
        }
        for (int pull : beyond(1, 3)) {
            all.add(new Refusal("pull " + pull, ARGUMENT, x -> x.train(20, 1, pull, true)));
        }
        for (int train : beyond(0, trains - 1)) {
            all.add(new Refusal("whole " + train, INDEX, x -> x.whole(train, false)));
            all.add(new Refusal("whole " + train, INDEX, x -> x.whole(train, true)));
        }
        for (int number : beyond(0, works - 1)) {
            all.add(new Refusal("end " + number, INDEX, x -> x.end(number)));
        }
        for (int seconds : beyond(1, 300)) {
            all.add(new Refusal("pass " + seconds, ARGUMENT, x -> x.pass(seconds)));
        }
    }

    private static void refusedQuestions(List<Refusal> all, int stations) {
        for (int station : beyond(0, stations - 1)) {
            all.add(new Refusal("ofStation " + station, INDEX, x -> x.ofStation(station, 0)));
            all.add(new Refusal("ofStation " + station + ", 3", INDEX, x -> x.ofStation(station, 3)));
        }
        for (int what : beyond(0, 2)) {
            int due = stations == 0 ? INDEX : ARGUMENT;
            all.add(new Refusal("ofStation 0, " + what, due, x -> x.ofStation(0, what)));
        }
        for (int what : beyond(0, 9)) {
            all.add(new Refusal("many " + what, ARGUMENT, x -> x.many(what)));
        }
    }

    private static void refusedQuestionsOfTrains(List<Refusal> all, int trains) {
        for (int train : beyond(0, trains - 1)) {
            all.add(new Refusal("ofTrain " + train, INDEX, x -> x.ofTrain(train, 0)));
            all.add(new Refusal("ofTrain " + train + ", 16", INDEX, x -> x.ofTrain(train, 16)));
            all.add(new Refusal("stops " + train, INDEX, x -> x.stops(train, 0)));
            all.add(new Refusal("stops " + train + ", 41", INDEX, x -> x.stops(train, 41)));
            all.add(new Refusal("may " + train, INDEX, x -> x.may(train)));
            all.add(new Refusal("why " + train, INDEX, x -> x.why(train)));
            all.add(new Refusal("reaches " + train, INDEX, x -> x.reaches(train, 0, 1)));
            all.add(new Refusal("reaches " + train + ", 3000", INDEX, x -> x.reaches(train, 3000, 1)));
            all.add(new Refusal("reaches " + train + ", 0, 0", INDEX, x -> x.reaches(train, 0, 0)));
            all.add(new Refusal("closest " + train, INDEX, x -> x.closest(train, 1)));
            all.add(new Refusal("closest " + train + ", 0", INDEX, x -> x.closest(train, 0)));
            all.add(new Refusal("lost " + train, INDEX, x -> x.lost(train, 0, 1, 1)));
            all.add(new Refusal("lost " + train + ", 0, 0", INDEX, x -> x.lost(train, 0, 0, 1)));
            all.add(new Refusal("lost " + train + ", 0, 1, 0", INDEX, x -> x.lost(train, 0, 1, 0)));
            all.add(new Refusal("lost " + train + ", 20", INDEX, x -> x.lost(train, 20, 1, 1)));
        }
        for (int train = 0; train < trains; train++) {
            refusedQuestionsOfTrain(all, train);
        }
    }

    private static void refusedQuestionsOfTrain(List<Refusal> all, int train) {
        for (int what : beyond(0, 15)) {
            all.add(new Refusal("ofTrain " + train + ", " + what, ARGUMENT, x -> x.ofTrain(train, what)));
        }
        for (int speed : beyond(0, 40)) {
            all.add(new Refusal("stops " + train + ", " + speed, ARGUMENT, x -> x.stops(train, speed)));
        }
        for (int metre : beyond(0, 2999)) {
            all.add(new Refusal("reaches " + train + ", " + metre, ARGUMENT, x -> x.reaches(train, metre, 1)));
        }
        for (int seconds : beyond(1, 600)) {
            all.add(new Refusal("reaches in " + seconds, ARGUMENT, x -> x.reaches(train, 0, seconds)));
        }
        for (int seconds : beyond(1, 120)) {
            all.add(new Refusal("closest in " + seconds, ARGUMENT, x -> x.closest(train, seconds)));
        }
        for (int section : NO_SECTIONS) {
            all.add(new Refusal("lost in " + section, INDEX, x -> x.lost(train, section, 1, 1)));
            all.add(new Refusal("lost in " + section + " by 0", INDEX, x -> x.lost(train, section, 0, 1)));
            all.add(new Refusal("lost in " + section + " in 0", INDEX, x -> x.lost(train, section, 1, 0)));
        }
        for (int limit : beyond(1, 40)) {
            all.add(new Refusal("lost by " + limit, ARGUMENT, x -> x.lost(train, 19, limit, 1)));
        }
        for (int seconds : beyond(1, 300)) {
            all.add(new Refusal("lost in seconds " + seconds, ARGUMENT, x -> x.lost(train, 0, 40, seconds)));
        }
    }

    private static void refusedWorks(List<Refusal> all) {
        for (int section : NO_SECTIONS) {
            all.add(new Refusal("works from " + section, INDEX, x -> x.works(section, 5)));
            all.add(new Refusal("works to " + section, INDEX, x -> x.works(5, section)));
            all.add(new Refusal("works from and to " + section, INDEX, x -> x.works(section, section)));
            all.add(new Refusal("worksIn from " + section, INDEX, x -> x.worksIn(section, 5, 1)));
            all.add(new Refusal("worksIn to " + section, INDEX, x -> x.worksIn(5, section, 1)));
            all.add(new Refusal("worksIn to " + section + " in 0", INDEX, x -> x.worksIn(5, section, 0)));
        }
        for (int[] one : new int[][] {{1, 0}, {19, 18}, {19, 0}}) {
            all.add(new Refusal("works turned round", ARGUMENT, x -> x.works(one[0], one[1])));
            all.add(new Refusal("worksIn turned round", ARGUMENT, x -> x.worksIn(one[0], one[1], 1)));
        }
        for (int seconds : beyond(1, 300)) {
            all.add(new Refusal("worksIn in " + seconds, ARGUMENT, x -> x.worksIn(0, 19, seconds)));
        }
    }

    private static void due(String what, int due, BrakeCurve x, Call call) {
        long before = x.digest();
        Check.due(what, due, thrown(x, call));
        Check.due(what + " changes nothing", before, x.digest());
    }

    private static void stateIsNamedLast() {
        BrakeCurve x = Lines.full();
        due("a fifth station", STATE, x, y -> y.station(1234, 5));
        due("a fifth station where there is one", ARGUMENT, x, y -> y.station(1500, 5));
        due("a fifth station beyond the line", ARGUMENT, x, y -> y.station(3000, 5));
        due("a fifth station with dwell 61", ARGUMENT, x, y -> y.station(1234, 61));
        due("a fifth train", STATE, x, y -> y.train(20, 1, 1, true));
        due("a fifth train with length 19", ARGUMENT, x, y -> y.train(19, 1, 1, true));
        due("a fifth train with brake 5", ARGUMENT, x, y -> y.train(20, 5, 1, true));
        due("a fifth train with pull 0", ARGUMENT, x, y -> y.train(20, 1, 0, true));
        due("fourth works", STATE, x, y -> y.works(19, 19));
        due("fourth works turned round", ARGUMENT, x, y -> y.works(19, 18));
        due("fourth works beyond the line", INDEX, x, y -> y.works(19, 20));
        due("fourth works turned round from beyond the line", INDEX, x, y -> y.works(20, 5));
        due("fourth works where a train is: thrown rather than -2", STATE, x, y -> y.works(0, 0));
        due("fourth works in an authority: thrown rather than -3", STATE, x, y -> y.works(4, 4));
    }

    private static void stateOfStations() {
        BrakeCurve x = new BrakeCurve();
        for (int station = 0; station < 4; station++) {
            Check.due("station", station, x.station(station, 0));
        }
        due("a fifth one without trains", STATE, x, y -> y.station(5, 0));
        BrakeCurve z = Lines.rearAt(2999);
        due("the first one, but a train is there", STATE, z, y -> y.station(5, 0));
        z.pass(1);
        due("the train has left", 0, Lines.rearAt(3000), y -> y.digest());
        Check.due("the first one", 0, z.station(5, 0));
    }

    private static void stateOfTrains() {
        BrakeCurve x = Lines.rearAt(20);
        due("its rear is the length", STATE, x, y -> y.train(20, 1, 1, true));
        x.pass(1);
        due("its rear is the length", STATE, x, y -> y.train(21, 1, 1, true));
        Check.due("its rear is above it", 1, x.train(20, 1, 1, true));
        BrakeCurve z = new BrakeCurve();
        for (int number = 0; number < 4; number++) {
            z.train(20, 4, 3, false);
            z.pass(300);
        }
        due("a fifth one, though the line is free", STATE, z, y -> y.train(20, 1, 1, true));
    }

    private static void stateOfWorks() {
        BrakeCurve x = new BrakeCurve();
        for (int works = 1; works <= 3; works++) {
            Check.due("works", works, x.works(works, works));
        }
        due("fourth works, though the line is free", STATE, x, y -> y.works(9, 9));
        x.end(0);
        Check.due("third works again", 3, x.works(9, 9));
    }

    /** The least and the greatest of each argument. */
    private static void theEdgesThemselvesAreNotRefused() {
        BrakeCurve x = new BrakeCurve();
        Call[] told = {y -> y.section(0, 1, -2, false), y -> y.section(19, 40, 2, true), y -> y.station(0, 0),
            y -> y.station(2999, 60), y -> y.works(0, 0), y -> y.works(19, 19), y -> y.works(0, 19), y -> y.end(2),
            y -> y.end(0), y -> y.end(0), y -> y.section(0, 40, 0, true), y -> y.train(200, 4, 3, true),
            y -> y.pass(1), y -> y.pass(300), y -> y.train(20, 1, 1, false), y -> y.whole(0, true),
            y -> y.whole(1, false)};
        Call[] asked = {y -> y.ofSection(0, 0), y -> y.ofSection(19, 4), y -> y.ofTrain(0, 0), y -> y.ofTrain(1, 15),
            y -> y.stops(0, 0), y -> y.stops(1, 40), y -> y.may(0), y -> y.may(1), y -> y.why(0), y -> y.why(1),
            y -> y.ofStation(0, 0), y -> y.ofStation(1, 2), y -> y.many(0), y -> y.many(9),
            y -> y.reaches(0, 0, 1), y -> y.reaches(1, 2999, 600), y -> y.closest(0, 1), y -> y.closest(1, 120),
            y -> y.lost(0, 0, 1, 1), y -> y.lost(1, 19, 40, 300), y -> y.worksIn(0, 0, 1), y -> y.worksIn(19, 19, 300),
            y -> y.worksIn(0, 19, 300)};
        for (int i = 0; i < told.length; i++) {
            Check.due("what is told at the edge, " + i, 0, thrown(x, told[i]));
        }
        for (int i = 0; i < asked.length; i++) {
            Check.due("what is asked at the edge, " + i, 0, thrown(x, asked[i]));
        }
    }
}
