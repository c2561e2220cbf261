/** The sentences of promises 9 to 16 that name a boundary, each with a test of its own (refusals: RefusedTest). */
public final class EdgesOfAskedTest {
    public static void main(String[] args) {
        ofSection();
        ofTrain();
        stops();
        may();
        why();
        ofStation();
        many();
        meanSpeed();
        Check.end("EdgesOfAskedTest");
    }

    private static void ofSection() {
        sectionFirstAndLast();
        sectionCountsEachTrainThatHasAMetreThere();
        sectionCountsThoseThatCrashed();
        sectionCountsNoneThatHasLeft();
        sectionWithWorksOverWorks();
    }

    private static void ofTrain() {
        trainAsItIsTold();
        trainThatHasLeft();
        trainThatCrashed();
        trainThatCrashedAndLeft();
        trainThatIsNotWhole();
        nextStationIsANumber();
        leastGapIsNoneIfItNeverHadOne();
        aheadIsToldAlsoOfOneThatHasLeft();
    }

    private static void stops() {
        stopsFrom0To40();
        stopsOfOneThatHasLeft();
        stopsOfOneThatCrashed();
    }

    private static void may() {
        mayFrom0To40();
        mayIsAskedNow();
        mayOfOneThatHasLeft();
        mayOfOneThatCrashed();
    }

    private static void why() {
        whyTheEndOfTheLine();
        whyTheReportUpTo3SecondsAgo();
        whyTheSectionFrom4SecondsAgo();
        whyWorks();
        whyWorksBehindTheOneAhead();
        whyItsOwnHeadIsBelowItAlone();
        whyTheSmallestNumberOfSeveral();
        whyIsAskedNow();
        whyOfOneThatHasLeft();
        whyOfOneThatCrashed();
    }

    private static void ofStation() {
        stationFirstAndLast();
        stationCountsThoseThatStopped();
    }

    private static void many() {
        manyNow();
        manyTrains();
        manyCrashedCanBeOfBoth();
        manyStationsAndWorks();
        manyOfAllTrainsTogether();
        manyMetres();
    }

    private static void meanSpeed() {
        meanSpeedIsNotRounded();
        meanSpeedWithoutAny();
        meanSpeedOfThoseThatHaveNotLeft();
        meanSpeedOfThoseThatCrashed();
    }

    // ---- Promise 9

    private static void sectionFirstAndLast() {
        BrakeCurve x = new BrakeCurve();
        x.section(0, 3, -2, false);
        x.section(19, 4, 2, true);
        x.works(19, 19);
        int[] first = {3, -2, 0, 0, 0};
        int[] last = {4, 2, 1, 0, 1};
        for (int what = 0; what <= 4; what++) {
            Check.due("ofSection(0, " + what + ")", first[what], x.ofSection(0, what));
            Check.due("ofSection(19, " + what + ")", last[what], x.ofSection(19, what));
        }
    }

    private static void sectionCountsEachTrainThatHasAMetreThere() {
        BrakeCurve x = Lines.crawling();
        int[] due = {1, 2, 3, 4};
        for (int number = 0; number < 4; number++) {
            x.train(20, 4, 1, false);
            Check.due("trains in the section 0", due[number], x.ofSection(0, 3));
            x.pass(31);
        }
        // train 0 has gone 124 metres, to 124 to 143
        Check.due("all in the section 0", 4, x.ofSection(0, 3));
        x.pass(7);
        Check.due("the head of train 0 is at 150", 1, x.ofSection(1, 3));
        Check.due("its rear is not", 4, x.ofSection(0, 3));
        x.pass(19);
        Check.due("its rear is at 150", 3, x.ofSection(0, 3));
    }

    private static void sectionCountsThoseThatCrashed() {
        BrakeCurve x = Lines.crashed();
        Check.due("two are there", 2, x.ofSection(1, 3));
        x.pass(300);
        Check.due("two are there for good", 2, x.ofSection(1, 3));
    }

    private static void sectionCountsNoneThatHasLeft() {
        BrakeCurve x = Lines.rearAt(2999);
        Check.due("rear at 2999", 1, x.ofSection(19, 3));
        x.pass(1);
        Check.due("rear at 3000", 0, x.ofSection(19, 3));
        Check.due("train 0 is there, train 1 has left", 1, Lines.crashedAtTheEnd(51, 75).ofSection(19, 3));
    }

    private static void sectionWithWorksOverWorks() {
        BrakeCurve x = new BrakeCurve();
        x.works(3, 5);
        x.works(5, 6);
        x.works(5, 5);
        int[] due = {0, 0, 0, 1, 1, 1, 1, 0};
        for (int section = 0; section < due.length; section++) {
            Check.due("works in " + section, due[section], x.ofSection(section, 4));
        }
        x.end(0);
        Check.due("others are there", 1, x.ofSection(5, 4));
        Check.due("none is there", 0, x.ofSection(4, 4));
    }

    // ---- Promise 10

    private static void dueOfTrain(String what, BrakeCurve x, int train, int... due) {
        for (int number = 0; number < due.length; number++) {
            Check.due(what + ": ofTrain(" + train + ", " + number + ")", due[number], x.ofTrain(train, number));
        }
    }

    private static void trainAsItIsTold() {
        BrakeCurve x = new BrakeCurve();
        x.pass(9);
        x.train(200, 1, 1, true);
        dueOfTrain("as it is told", x, 0, 199, 0, 0, 199, 1, 0, -1, 0, 199, 0, 9, 0, 0, 0, -1, -1);
    }

    private static void trainThatHasLeft() {
        BrakeCurve x = Lines.rearAt(3000);
        x.pass(50);
        dueOfTrain("it has left", x, 0, 3019, 3000, 0, 3019, 1, 0, -1, 1, 3018, 2999, 3000, 0, 0, 0, -1, -1);
    }

    private static void trainThatCrashed() {
        BrakeCurve x = Lines.crashed();
        x.pass(2);
        dueOfTrain("it was run into", x, 0, 199, 180, 0, 3019, 1, 49, -1, 2, 199, 180, 29, 6, 0, 0, -1, -1);
        dueOfTrain("it ran into it", x, 1, 183, 164, 0, 183, 1, 0, -1, 2, 183, 164, 29, 3, 1, 0, -4, 0);
    }

    private static void trainThatCrashedAndLeft() {
        BrakeCurve x = Lines.crashedAtTheEnd(53, 75);
        Check.due("1 if it has left, also if it crashed", 1, x.ofTrain(0, 7));
        Check.due("1 if it has left, also if it crashed", 1, x.ofTrain(1, 7));
        Check.due("both crashed", 2, x.many(3));
        Check.due("its gap is kept", -21, x.ofTrain(1, 14));
    }

    private static void trainThatIsNotWhole() {
        BrakeCurve x = Lines.rearAt(100);
        Check.due("1 if it is whole", 1, x.ofTrain(0, 4));
        x.whole(0, false);
        Check.due("0 otherwise", 0, x.ofTrain(0, 4));
        x.whole(0, true);
        Check.due("1 if it is whole again", 1, x.ofTrain(0, 4));
    }

    private static void nextStationIsANumber() {
        BrakeCurve x = new BrakeCurve();
        x.station(10, 5);
        x.station(300, 5);
        x.station(200, 5);
        x.train(20, 4, 3, true);
        Check.due("the least metre ahead", 2, x.ofTrain(0, 6));
        Lines.passUntilStopped(x, 2);
        Check.due("the next one", 1, x.ofTrain(0, 6));
        Lines.passUntilStopped(x, 1);
        Check.due("none", -1, x.ofTrain(0, 6));
    }

    private static void leastGapIsNoneIfItNeverHadOne() {
        BrakeCurve x = Lines.rearAt(100);
        x.train(20, 4, 1, false);
        Check.due("as it is told", -1, x.ofTrain(1, 14));
        x.pass(1);
        Check.due("a second later", 80, x.ofTrain(1, 14));
        x.pass(300);
        Check.due("the first one never had one", -1, x.ofTrain(0, 14));
        BrakeCurve y = Lines.rearAt(2999);
        y.train(20, 4, 1, false);
        y.pass(1);
        Check.due("in the second in which the one ahead leaves", 2979, y.ofTrain(1, 14));
        BrakeCurve z = Lines.rearAt(3000);
        z.train(20, 4, 1, false);
        z.pass(300);
        Check.due("behind one that has left", -1, z.ofTrain(1, 14));
    }

    private static void aheadIsToldAlsoOfOneThatHasLeft() {
        BrakeCurve x = Lines.crashedAtTheEnd(51, 75);
        Check.due("train 1 has left", 1, x.ofTrain(1, 7));
        Check.due("the one told just before has not", 0, x.ofTrain(1, 15));
    }

    // ---- Promise 11

    private static void stopsFrom0To40() {
        BrakeCurve x = new BrakeCurve();
        x.train(20, 1, 1, false);
        for (int speed = 0; speed <= 40; speed++) {
            int due = speed;
            for (int slower = 1; slower < speed; slower++) {
                due += slower;
            }
            Check.due("hold 1, from " + speed, due, x.stops(0, speed));
        }
    }

    private static void stopsOfOneThatHasLeft() {
        BrakeCurve x = Lines.rearAt(3000);
        x.section(19, 1, -2, true);
        Check.due("by the grade of the section 19", 40 + 390, x.stops(0, 40));
        Check.due("from 0", 0, x.stops(0, 0));
    }

    private static void stopsOfOneThatCrashed() {
        BrakeCurve x = Lines.crashed();
        Check.due("by the grade where it stays", 40 + 390, x.stops(1, 40));
    }

    // ---- Promise 12

    private static void mayFrom0To40() {
        BrakeCurve x = new BrakeCurve();
        x.train(20, 4, 3, false);
        Check.due("0 as it is told", 0, x.may(0));
        x.pass(1);
        for (int limit = 1; limit <= 40; limit++) {
            x.section(0, limit, 0, true);
            Check.due("by the limit alone", limit, x.may(0));
        }
    }

    private static void mayIsAskedNow() {
        BrakeCurve x = new BrakeCurve();
        x.train(20, 4, 3, false);
        x.pass(1);
        Check.due("limit 40", 40, x.may(0));
        x.section(0, 7, 0, true);
        Check.due("limit 7, at once", 7, x.may(0));
        x.section(0, 40, 0, false);
        Check.due("by the authority that it has", 40, x.may(0));
        Check.due("it goes 3 now", 3, x.ofTrain(0, 2));
    }

    private static void mayOfOneThatHasLeft() {
        BrakeCurve x = Lines.rearAt(3000);
        x.section(19, 40, 2, true);
        Check.due("it has left", 0, x.may(0));
        Check.due("it has left and crashed", 0, Lines.crashedAtTheEnd(53, 75).may(1));
    }

    private static void mayOfOneThatCrashed() {
        BrakeCurve x = Lines.crashed();
        Check.due("the one ahead has its way", 40, x.may(0));
        Check.due("the one behind has none", 0, x.may(1));
        x.section(1, 9, 0, true);
        Check.due("by the limit", 9, x.may(0));
    }

    // ---- Promise 13

    private static void whyTheEndOfTheLine() {
        BrakeCurve x = new BrakeCurve();
        x.train(20, 4, 3, false);
        Check.due("as it is told", 0, x.why(0));
        x.pass(50);
        Check.due("on the way", 0, x.why(0));
        BrakeCurve y = Lines.rearAt(2999);
        Check.due("a metre ahead of it", 0, y.why(0));
    }

    /** Train 0 reported last in second 200, with its rear at 199. */
    private static BrakeCurve reportedInSecond200() {
        BrakeCurve x = Lines.rearAt(200);
        x.train(20, 4, 1, false);
        x.section(1, 1, 0, false);
        return x;
    }

    private static void whyTheReportUpTo3SecondsAgo() {
        BrakeCurve x = reportedInSecond200();
        for (int second = 200; second <= 203; second++) {
            Check.due("now " + second + ", by the report of 200", 1, x.why(1));
            x.pass(1);
        }
    }

    private static void whyTheSectionFrom4SecondsAgo() {
        BrakeCurve x = reportedInSecond200();
        x.pass(4);
        Check.due("now 204, by the section", 2, x.why(1));
        x.pass(76);
        Check.due("now 280, its head at 299, by the section", 2, x.why(1));
    }

    private static void whyWorks() {
        BrakeCurve x = new BrakeCurve();
        x.works(1, 1);
        x.works(2, 2);
        x.train(20, 4, 3, false);
        Check.due("works", 3, x.why(0));
        x.end(0);
        Check.due("others", 3, x.why(0));
        x.end(0);
        Check.due("none any more", 0, x.why(0));
        Check.due("works begin beyond its authority, which is its head", 1, x.works(19, 19));
        Check.due("works", 3, x.why(0));
    }

    private static void whyWorksBehindTheOneAhead() {
        BrakeCurve x = Lines.rearAt(320);
        x.train(20, 4, 1, false);
        Check.due("the one ahead", 1, x.why(1));
        Check.due("works behind it", 1, x.works(1, 1));
        Check.due("they come first", 3, x.why(1));
        x.section(2, 1, 0, false);
        x.pass(10);
        Check.due("they come first, also ahead of the section of the one ahead", 3, x.why(1));
        x.end(0);
        Check.due("the section of the one ahead", 2, x.why(1));
    }

    private static void whyItsOwnHeadIsBelowItAlone() {
        BrakeCurve x = Lines.rearAt(29);
        x.train(20, 4, 1, false);
        Check.due("known rear", 28, x.ofTrain(0, 9));
        Check.due("18 is below its head", 4, x.why(1));
        x.pass(1);
        Check.due("known rear", 29, x.ofTrain(0, 9));
        Check.due("19 is its head", 1, x.why(1));
        BrakeCurve y = Lines.crawling();
        y.works(1, 1);
        y.train(20, 4, 1, false);
        y.pass(200);
        Check.due("works end its way at its head", 3, y.why(0));
    }

    private static void whyTheSmallestNumberOfSeveral() {
        BrakeCurve x = Lines.rearAt(160);
        x.whole(0, false);
        x.pass(150);
        x.train(20, 4, 1, false);
        Check.due("known rear", 159, x.ofTrain(0, 9));
        Check.due("works from 150", 1, x.works(1, 1));
        Check.due("the report and works, both at 149", 1, x.why(1));
        Check.due("no works", 0, x.end(0));
        x.section(2, 1, 0, false);
        x.pass(4);
        Check.due("the section alone, at 149", 2, x.why(1));
        Check.due("its authority", 149, x.ofTrain(1, 3));
        Check.due("works from 150", 1, x.works(1, 1));
        Check.due("the section and works, both at 149", 2, x.why(1));
    }

    private static void whyIsAskedNow() {
        BrakeCurve x = Lines.crawling();
        x.works(1, 1);
        x.train(20, 4, 1, false);
        x.pass(1);
        x.section(0, 1, 0, false);
        x.end(0);
        Check.due("its authority is by the works", 149, x.ofTrain(0, 3));
        Check.due("it would not be", 0, x.why(0));
        x.pass(5);
        Check.due("it is still, without radio", 149, x.ofTrain(0, 3));
        Check.due("it would not be", 0, x.why(0));
    }

    private static void whyOfOneThatHasLeft() {
        BrakeCurve x = Lines.rearAt(2999);
        Check.due("not yet", 0, x.why(0));
        x.pass(1);
        Check.due("it has left", -1, x.why(0));
        Check.due("it has left and crashed", -1, Lines.crashedAtTheEnd(51, 75).why(1));
    }

    private static void whyOfOneThatCrashed() {
        BrakeCurve x = Lines.crashed();
        Check.due("the one ahead", 0, x.why(0));
        Check.due("known rear 180 less 10 is below its head", 4, x.why(1));
    }

    // ---- Promise 14

    private static void stationFirstAndLast() {
        BrakeCurve x = new BrakeCurve();
        int[][] all = {{2999, 60}, {0, 0}, {1, 59}, {2998, 1}};
        for (int[] one : all) {
            x.station(one[0], one[1]);
        }
        for (int station = 0; station < 4; station++) {
            Check.due("its metre", all[station][0], x.ofStation(station, 0));
            Check.due("its dwell", all[station][1], x.ofStation(station, 1));
            Check.due("none stopped", 0, x.ofStation(station, 2));
        }
    }

    private static void stationCountsThoseThatStopped() {
        BrakeCurve x = new BrakeCurve();
        x.station(100, 0);
        x.station(2999, 60);
        for (int number = 1; number <= 4; number++) {
            x.train(20, 4, 3, true);
            x.pass(300);
            Check.due("stopped at the first", number, x.ofStation(0, 2));
            Check.due("stopped at the last", number, x.ofStation(1, 2));
        }
        Check.due("all have left", 4, x.many(2));
    }

    // ---- Promise 15

    private static void manyNow() {
        BrakeCurve x = new BrakeCurve();
        Check.due("now", 0, x.many(0));
        x.pass(300);
        Check.due("now", 300, x.many(0));
    }

    private static void manyTrains() {
        BrakeCurve x = new BrakeCurve();
        for (int number = 1; number <= 4; number++) {
            x.train(20, 4, 3, false);
            Check.due("told", number, x.many(1));
            Check.due("left", number - 1, x.many(2));
            x.pass(300);
            Check.due("left", number, x.many(2));
        }
        Check.due("crashed", 0, x.many(3));
    }

    private static void manyCrashedCanBeOfBoth() {
        BrakeCurve x = Lines.crashedAtTheEnd(53, 75);
        Check.due("told", 2, x.many(1));
        Check.due("left", 2, x.many(2));
        Check.due("crashed", 2, x.many(3));
        BrakeCurve y = Lines.crashed();
        Check.due("left", 0, y.many(2));
        Check.due("crashed", 2, y.many(3));
    }

    private static void manyStationsAndWorks() {
        BrakeCurve x = new BrakeCurve();
        for (int number = 1; number <= 4; number++) {
            x.station(number, 0);
            Check.due("stations", number, x.many(4));
        }
        for (int number = 1; number <= 3; number++) {
            x.works(number, number);
            Check.due("works", number, x.many(5));
        }
        x.end(1);
        Check.due("works that there are", 2, x.many(5));
    }

    private static void manyOfAllTrainsTogether() {
        BrakeCurve x = Lines.crashed();
        Check.due("braked", 6 + 3, x.many(6));
        Check.due("overrun", 0 + 1, x.many(7));
        BrakeCurve y = Lines.of(40, 2);
        y.station(100, 5);
        y.train(20, 4, 3, true);
        y.pass(5);
        y.section(0, 40, -2, true);
        y.pass(300);
        Check.due("missed by one that has left", 1, y.many(8));
        y.section(0, 40, 2, true);
        y.train(20, 4, 3, true);
        y.pass(5);
        y.section(0, 40, -2, true);
        y.pass(300);
        Check.due("missed by both", 2, y.many(8));
        Check.due("braked by both", y.ofTrain(0, 11) + y.ofTrain(1, 11), y.many(6));
    }

    private static void manyMetres() {
        BrakeCurve x = Lines.crawling();
        x.train(200, 4, 1, false);
        Check.due("none as it is told", 0, x.many(9));
        x.pass(1);
        Check.due("one", 1, x.many(9));
        Lines.pass(x, 3000);
        Check.due("from 0 to 3000", 3000, x.many(9));
        x.train(20, 4, 1, false);
        x.pass(7);
        Check.due("of all trains", 3007, x.many(9));
        Check.due("of those that crashed, too", 180 + 164, Lines.crashed().many(9));
    }

    // ---- Promise 16

    private static void dueMean(String what, double due, BrakeCurve x) {
        Check.due(what, (Object) due, (Object) x.meanSpeed());
    }

    private static void meanSpeedIsNotRounded() {
        BrakeCurve x = new BrakeCurve();
        x.train(20, 4, 3, false);
        x.pass(9);
        x.train(20, 4, 1, false);
        dueMean("27 and 0", 13.5, x);
        x.pass(7);
        x.train(20, 4, 1, false);
        dueMean("40, 7 and 0", 47.0 / 3.0, x);
    }

    private static void meanSpeedWithoutAny() {
        dueMean("no train", 0.0, new BrakeCurve());
        dueMean("it has left", 0.0, Lines.rearAt(3000));
    }

    private static void meanSpeedOfThoseThatHaveNotLeft() {
        BrakeCurve x = Lines.rearAt(3000);
        x.train(20, 4, 1, false);
        dueMean("as it is told", 0.0, x);
        x.pass(1);
        dueMean("one of two has left", 1.0, x);
    }

    private static void meanSpeedOfThoseThatCrashed() {
        BrakeCurve x = Lines.crashed();
        dueMean("they stand", 0.0, x);
        x.train(20, 4, 3, false);
        x.pass(1);
        dueMean("but count", 1.0, x);
    }
}
