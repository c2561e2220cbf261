/** The sentences of the document's term 3 (a second) that name a boundary, each with a test of its own. */
public final class EdgesOfSecondsTest {
    public static void main(String[] args) {
        nowIs0AtFirst();
        oneThatHasLeftReportsNoMore();
        reports();
        authority();
        going();
        afterAllHaveGone();
        leaving();
        Check.end("EdgesOfSecondsTest");
    }

    private static void reports() {
        reportsByTheSectionOfItsHead();
        reportsItsRearIfItIsWhole();
        reportsThoughItCrashed();
    }

    private static void authority() {
        isGivenByTheSectionOfItsHead();
        endsBeyondTheEnd();
        endsTenMetresBehindTheKnownRear();
        endsByTheReportOf3SecondsAgo();
        endsByTheSectionOf4SecondsAgo();
        endsAheadOfTheFirstMetreOfTheSection();
        isNoLessThanTheHead();
        countsTheReportThoughTheRearIsNotKnownAnew();
        endsAheadOfWorks();
        endsAheadOfTheNextWorks();
        endsNotAtWorksThatBeginAtTheHead();
        endsNotAtWorksBehindTheHead();
        endsAheadOfWorksInTheSection19();
        staysWithoutRadio();
    }

    private static void going() {
        staysWhileDwellIsLeft();
        pullsNoFartherThanItMay();
        brakesNoFartherThanItMay();
        neitherPullsNorBrakesAtWhatItMay();
        brakesByTheHoldOfWhereItWas();
        stopsAtAStationWithSpeed0Alone();
        stopsAtAStationAtItsHeadAlone();
        stopsWhereItsAuthorityEnds();
        missesNoStationAtItsHead();
        missesAStationAMetreBehind();
        stationsThatItMissedAreNotToComeAnyMore();
    }

    private static void afterAllHaveGone() {
        overrunIsAMetreAboveTheAuthority();
        overrunIsNotAtTheAuthority();
        overrunIsCountedForEachSecond();
        gapIsOfTheRearAheadAndTheHead();
        gapIsTakenAsAllHaveGone();
        leastGapIsKept();
        gapOf0IsNoCrash();
        gapBelow0IsACrash();
        bothThatCrashedStayForGood();
        stationsOfOneThatCrashedAreStillToCome();
        aThirdOneCrashes();
        oneThatCrashedOverrunsUntilItGetsItsAuthority();
    }

    private static void leaving() {
        rearAt2999HasNotLeft();
        rearAt3000HasLeft();
        rearAbove3000HasLeft();
        speedIs0AsItHasLeft();
        gapIsTakenInTheSecondInWhichTheOneAheadLeaves();
        crashesAndLeavesInTheSameSecond();
    }

    private static void nowIs0AtFirst() {
        BrakeCurve x = new BrakeCurve();
        Check.due("now at first", 0, x.many(0));
        x.pass(1);
        Check.due("now is 1 more", 1, x.many(0));
        x.pass(300);
        Check.due("now is 300 more", 301, x.many(0));
    }

    private static void oneThatHasLeftReportsNoMore() {
        BrakeCurve x = Lines.rearAt(3000);
        int[] due = {3019, 3000, 0, 3019, 1, 0, -1, 1, 3018, 2999, 3000, 0, 0, 0, -1, -1};
        for (int passed = 0; passed <= 2; passed++) {
            for (int what = 0; what < due.length; what++) {
                Check.due("ofTrain(0, " + what + ") as it has left", due[what], x.ofTrain(0, what));
            }
            x.pass(passed == 0 ? 1 : 300);
        }
    }

    // ---- (1) REPORTS

    private static void reportsByTheSectionOfItsHead() {
        BrakeCurve x = Lines.crawling();
        x.section(1, 1, 0, false);
        x.train(20, 4, 1, false);
        x.pass(131);
        Check.due("reported at 149", 149, x.ofTrain(0, 8));
        Check.due("in second 131", 131, x.ofTrain(0, 10));
        x.pass(1);
        Check.due("not at 150, though its rear is in the section 0", 149, x.ofTrain(0, 8));
        Check.due("not in second 132", 131, x.ofTrain(0, 10));
        BrakeCurve y = Lines.crawling();
        y.train(20, 4, 1, false);
        y.pass(100);
        y.section(0, 1, 0, false);
        y.pass(31);
        Check.due("not at 149", 100, y.ofTrain(0, 10));
        Check.due("not at 149", 118, y.ofTrain(0, 8));
        y.pass(1);
        Check.due("reported at 150, though its rear is in the section 0", 150, y.ofTrain(0, 8));
        Check.due("in second 132", 132, y.ofTrain(0, 10));
    }

    private static void reportsItsRearIfItIsWhole() {
        BrakeCurve x = Lines.rearAt(50);
        Check.due("known head", 68, x.ofTrain(0, 8));
        Check.due("known rear", 49, x.ofTrain(0, 9));
        x.whole(0, false);
        x.pass(10);
        Check.due("not whole: known head", 78, x.ofTrain(0, 8));
        Check.due("not whole: known rear stays", 49, x.ofTrain(0, 9));
        Check.due("not whole: it reported", 60, x.ofTrain(0, 10));
        x.whole(0, true);
        x.pass(1);
        Check.due("whole again: known rear", 60, x.ofTrain(0, 9));
    }

    private static void reportsThoughItCrashed() {
        BrakeCurve x = Lines.crashed();
        Check.due("in the second of the crash", 27, x.many(0));
        Check.due("known as it went", 166, x.ofTrain(1, 8));
        x.pass(1);
        Check.due("known as it stands", 183, x.ofTrain(1, 8));
        Check.due("known as it stands", 164, x.ofTrain(1, 9));
        Check.due("known in second 28", 28, x.ofTrain(1, 10));
        Check.due("the one ahead, too", 28, x.ofTrain(0, 10));
    }

    // ---- (2) AUTHORITY

    private static void isGivenByTheSectionOfItsHead() {
        BrakeCurve x = Lines.crawling();
        x.works(3, 3);
        x.section(1, 1, 0, false);
        x.train(20, 4, 1, false);
        x.pass(130);
        Check.due("head at 149", 449, x.ofTrain(0, 3));
        x.end(0);
        x.works(4, 4);
        x.pass(1);
        Check.due("it got it at 149, and went to 150", 599, x.ofTrain(0, 3));
        x.end(0);
        x.pass(1);
        Check.due("it gets none at 150", 599, x.ofTrain(0, 3));
        x.section(1, 1, 0, true);
        x.section(0, 1, 0, false);
        x.pass(1);
        Check.due("it gets one at 151, though its rear has no radio", 3019, x.ofTrain(0, 3));
    }

    private static void endsBeyondTheEnd() {
        for (int length : new int[] {20, 200}) {
            BrakeCurve x = Lines.crawling();
            x.train(length, 4, 1, false);
            x.pass(1);
            Check.due("2999 and its length", 2999 + length, x.ofTrain(0, 3));
            Lines.pass(x, 2998);
            Check.due("no train leaves before", 0, x.many(2));
            x.pass(1);
            Check.due("so that it can leave", 1, x.many(2));
            Check.due("at its authority", x.ofTrain(0, 3), x.ofTrain(0, 0));
        }
    }

    private static void endsTenMetresBehindTheKnownRear() {
        BrakeCurve x = Lines.rearAt(100);
        x.train(20, 4, 1, false);
        x.pass(1);
        Check.due("the rear as it reported", 100, x.ofTrain(0, 9));
        Check.due("not where it is", 101, x.ofTrain(0, 1));
        Check.due("less 10", 90, x.ofTrain(1, 3));
    }

    /** Train 0 reported its rear at 199 in second 200, and has no radio from then on; train 1 has. */
    private static BrakeCurve reportedInSecond200() {
        BrakeCurve x = Lines.rearAt(200);
        x.section(1, 1, 0, false);
        x.train(20, 4, 1, false);
        return x;
    }

    private static void endsByTheReportOf3SecondsAgo() {
        BrakeCurve x = reportedInSecond200();
        x.pass(3);
        Check.due("reported last", 200, x.ofTrain(0, 10));
        Check.due("now", 203, x.many(0));
        Check.due("by the report", 189, x.ofTrain(1, 3));
        Check.due("by the report", 1, x.why(1));
    }

    private static void endsByTheSectionOf4SecondsAgo() {
        BrakeCurve x = reportedInSecond200();
        x.pass(4);
        Check.due("reported last", 200, x.ofTrain(0, 10));
        Check.due("now", 204, x.many(0));
        Check.due("by the section", 149, x.ofTrain(1, 3));
        Check.due("by the section", 2, x.why(1));
        x.section(1, 1, 0, true);
        x.pass(1);
        Check.due("by the report again", 194, x.ofTrain(1, 3));
        Check.due("by the report again", 1, x.why(1));
    }

    private static void endsAheadOfTheFirstMetreOfTheSection() {
        int[][] knownRearsAndEnds = {{150, 149}, {299, 149}, {300, 299}, {2849, 2699}, {2850, 2849}};
        for (int[] one : knownRearsAndEnds) {
            BrakeCurve x = Lines.rearAt(one[0] + 1);
            x.section(x.ofTrain(0, 0) / 150 > 19 ? 19 : x.ofTrain(0, 0) / 150, 1, 0, false);
            x.train(20, 4, 1, false);
            x.pass(4);
            Check.due("the known rear", one[0], x.ofTrain(0, 9));
            Check.due("by the section of " + one[0], one[1], x.ofTrain(1, 3));
            Check.due("by the section of " + one[0], 2, x.why(1));
        }
        BrakeCurve y = Lines.rearAt(150);
        y.section(1, 1, 0, false);
        y.train(20, 4, 1, false);
        y.pass(3);
        Check.due("the known rear", 149, y.ofTrain(0, 9));
        Check.due("by the report", 139, y.ofTrain(1, 3));
        y.pass(1);
        Check.due("no metre is ahead of the section 0: its own head", 22, y.ofTrain(1, 3));
        Check.due("its own head", 4, y.why(1));
    }

    private static void isNoLessThanTheHead() {
        BrakeCurve x = Lines.rearAt(21);
        x.train(20, 4, 1, false);
        x.pass(7);
        Check.due("the known rear", 27, x.ofTrain(0, 9));
        Check.due("17 is below its head", 19, x.ofTrain(1, 3));
        Check.due("its own head", 4, x.why(1));
        x.pass(1);
        Check.due("18 is below its head", 19, x.ofTrain(1, 3));
        Check.due("its own head", 4, x.why(1));
        x.pass(1);
        Check.due("19 is its head", 19, x.ofTrain(1, 3));
        Check.due("the one ahead", 1, x.why(1));
        Check.due("it stands", 19, x.ofTrain(1, 0));
        x.pass(1);
        Check.due("20 is above its head", 20, x.ofTrain(1, 3));
        Check.due("it goes", 20, x.ofTrain(1, 0));
    }

    private static void countsTheReportThoughTheRearIsNotKnownAnew() {
        BrakeCurve x = Lines.rearAt(200);
        x.whole(0, false);
        x.train(20, 4, 1, false);
        x.pass(40);
        Check.due("known rear", 199, x.ofTrain(0, 9));
        Check.due("by the report", 189, x.ofTrain(1, 3));
        Check.due("by the report", 1, x.why(1));
    }

    private static void endsAheadOfWorks() {
        BrakeCurve x = Lines.crawling();
        x.works(1, 3);
        x.train(20, 4, 1, false);
        x.pass(1);
        Check.due("first metre less 1", 149, x.ofTrain(0, 3));
        x.pass(300);
        Check.due("it stands there", 149, x.ofTrain(0, 0));
        Check.due("its authority is its head", 149, x.ofTrain(0, 3));
        Check.due("by the works", 3, x.why(0));
        x.end(0);
        x.pass(1);
        Check.due("it goes as they end", 150, x.ofTrain(0, 0));
    }

    private static void endsAheadOfTheNextWorks() {
        int[][] orders = {{3, 5, 9}, {5, 3, 9}, {9, 5, 3}, {3, 9, 5}};
        for (int[] order : orders) {
            BrakeCurve x = Lines.crawling();
            for (int section : order) {
                x.works(section, section);
            }
            x.train(20, 4, 1, false);
            x.pass(1);
            Check.due("the least first metre less 1", 449, x.ofTrain(0, 3));
        }
    }

    private static void endsNotAtWorksThatBeginAtTheHead() {
        BrakeCurve x = Lines.overrunByOneMetre();
        Check.due("head at the first metre of the works", 150, x.ofTrain(0, 0));
        Check.due("its authority as it got it at 143", 149, x.ofTrain(0, 3));
        Check.due("it would be the end of the line", 0, x.why(0));
        x.pass(1);
        Check.due("it is the end of the line", 3019, x.ofTrain(0, 3));
    }

    private static void endsNotAtWorksBehindTheHead() {
        BrakeCurve x = new BrakeCurve();
        x.works(0, 0);
        x.train(20, 4, 3, false);
        x.pass(1);
        Check.due("works from 0 are ahead of none", 3019, x.ofTrain(0, 3));
        x.pass(14);
        Check.due("its rear is beyond them", 353, x.ofTrain(0, 1));
        x.works(1, 1);
        x.pass(1);
        Check.due("works behind it", 3019, x.ofTrain(0, 3));
    }

    private static void endsAheadOfWorksInTheSection19() {
        BrakeCurve x = new BrakeCurve();
        x.works(19, 19);
        x.train(20, 4, 3, false);
        x.pass(300);
        Check.due("it stands at 2849", 2849, x.ofTrain(0, 0));
        Check.due("by the works", 3, x.why(0));
    }

    private static void staysWithoutRadio() {
        BrakeCurve x = Lines.crawling();
        x.works(1, 1);
        x.train(20, 4, 1, false);
        x.pass(1);
        x.section(0, 1, 0, false);
        x.end(0);
        x.pass(200);
        Check.due("it goes as far as it was given", 149, x.ofTrain(0, 0));
        Check.due("and keeps that", 149, x.ofTrain(0, 3));
        Check.due("what it would get is another thing", 0, x.why(0));
    }

    // ---- (3) GOING

    private static void staysWhileDwellIsLeft() {
        BrakeCurve x = Lines.crawling();
        x.station(21, 2);
        x.train(20, 4, 1, true);
        x.pass(3);
        int[][] dwellsAndHeads = {{2, 21}, {1, 21}, {0, 21}, {0, 22}, {0, 23}};
        for (int[] one : dwellsAndHeads) {
            Check.due("dwell in second " + x.many(0), one[0], x.ofTrain(0, 5));
            Check.due("head in second " + x.many(0), one[1], x.ofTrain(0, 0));
            x.pass(1);
        }
        Check.due("it braked as it stopped, and not as it dwelt", 1, x.ofTrain(0, 11));
    }

    private static void pullsNoFartherThanItMay() {
        int[][] limitsAndSpeeds = {{5, 3, 5, 5}, {6, 3, 6, 6}, {7, 3, 6, 7}, {1, 1, 1, 1}};
        for (int[] one : limitsAndSpeeds) {
            BrakeCurve x = Lines.of(one[0], 0);
            x.train(20, 4, 3, false);
            for (int second = 1; second <= 3; second++) {
                x.pass(1);
                Check.due("limit " + one[0] + " in second " + second, one[second], x.ofTrain(0, 2));
            }
            Check.due("it did not brake", 0, x.ofTrain(0, 11));
        }
    }

    private static void brakesNoFartherThanItMay() {
        int[][] limitsAndSpeeds = {{8, 8, 8, 1}, {5, 5, 5, 1}, {4, 5, 4, 2}, {1, 5, 1, 2}};
        for (int[] one : limitsAndSpeeds) {
            BrakeCurve x = Lines.of(9, 0);
            x.train(20, 4, 3, false);
            x.pass(4);
            x.section(0, one[0], 0, true);
            x.pass(1);
            Check.due("9 less 4 or to " + one[0], one[1], x.ofTrain(0, 2));
            x.pass(1);
            Check.due("and to " + one[0], one[2], x.ofTrain(0, 2));
            x.pass(3);
            Check.due("seconds in which it braked to " + one[0], one[3], x.ofTrain(0, 11));
        }
    }

    private static void neitherPullsNorBrakesAtWhatItMay() {
        BrakeCurve x = Lines.of(9, 0);
        x.train(20, 4, 3, false);
        x.pass(3);
        for (int second = 0; second < 10; second++) {
            x.pass(1);
            Check.due("speed", 9, x.ofTrain(0, 2));
            Check.due("did not brake", 0, x.ofTrain(0, 11));
        }
        BrakeCurve y = new BrakeCurve();
        y.section(0, 1, 0, false);
        y.train(20, 4, 3, false);
        y.pass(10);
        Check.due("who stands and may not go does not brake", 0, y.ofTrain(0, 11));
    }

    /** Its head goes from 144, where the grade is 2, to 153, where it is -2. */
    private static void brakesByTheHoldOfWhereItWas() {
        BrakeCurve x = new BrakeCurve();
        x.section(0, 40, 2, true);
        x.section(1, 40, -2, true);
        x.train(100, 4, 3, false);
        x.pass(5);
        Check.due("head", 144, x.ofTrain(0, 0));
        x.section(0, 1, 2, true);
        x.pass(1);
        Check.due("15 less 6, the hold at 144", 9, x.ofTrain(0, 2));
        Check.due("head", 153, x.ofTrain(0, 0));
        x.pass(1);
        Check.due("9 less 2, the hold at 153", 7, x.ofTrain(0, 2));
    }

    private static void stopsAtAStationWithSpeed0Alone() {
        BrakeCurve x = Lines.crawling();
        x.station(21, 4);
        x.train(20, 4, 1, true);
        x.pass(2);
        Check.due("at the station", 21, x.ofTrain(0, 0));
        Check.due("with a speed", 1, x.ofTrain(0, 2));
        Check.due("nobody stopped", 0, x.ofStation(0, 2));
        Check.due("no dwell", 0, x.ofTrain(0, 5));
        Check.due("the station is to come", 0, x.ofTrain(0, 6));
        x.pass(1);
        Check.due("one stopped", 1, x.ofStation(0, 2));
        Check.due("dwell", 4, x.ofTrain(0, 5));
        Check.due("it is not to come any more", -1, x.ofTrain(0, 6));
    }

    /** The works end its way at 149, a metre ahead of the station. */
    private static void stopsAtAStationAtItsHeadAlone() {
        BrakeCurve x = Lines.crawling();
        x.station(150, 4);
        x.works(1, 1);
        x.train(20, 4, 1, true);
        x.pass(200);
        Check.due("it stands", 0, x.ofTrain(0, 2));
        Check.due("a metre ahead of the station", 149, x.ofTrain(0, 0));
        Check.due("nobody stopped", 0, x.ofStation(0, 2));
        Check.due("no dwell", 0, x.ofTrain(0, 5));
        Check.due("the station is to come", 0, x.ofTrain(0, 6));
        Check.due("it missed none", 0, x.ofTrain(0, 13));
    }

    private static void stopsWhereItsAuthorityEnds() {
        BrakeCurve x = Lines.crawling();
        x.station(149, 4);
        x.works(1, 1);
        x.train(20, 4, 1, true);
        x.pass(130);
        Check.due("at the station", 149, x.ofTrain(0, 0));
        x.pass(1);
        Check.due("one stopped", 1, x.ofStation(0, 2));
        Check.due("dwell", 4, x.ofTrain(0, 5));
    }

    /** Train 0 goes 22, 28, 37, 49, 64 with hold 6 to a station at 100, and 77, 88, 97, 104 with hold 2. */
    private static BrakeCurve beyondTheStationAt100(int otherStation) {
        BrakeCurve x = Lines.of(40, 2);
        x.station(100, 5);
        x.station(otherStation, 5);
        x.train(20, 4, 3, true);
        x.pass(5);
        x.section(0, 40, -2, true);
        x.pass(3);
        Check.due("ahead of both", 97, x.ofTrain(0, 0));
        Check.due("missed none", 0, x.ofTrain(0, 13));
        x.pass(1);
        Check.due("beyond the first", 104, x.ofTrain(0, 0));
        Check.due("with a speed", 7, x.ofTrain(0, 2));
        return x;
    }

    private static void missesNoStationAtItsHead() {
        BrakeCurve x = beyondTheStationAt100(104);
        Check.due("missed one", 1, x.ofTrain(0, 13));
        Check.due("the other one is to come", 1, x.ofTrain(0, 6));
        x.pass(1);
        Check.due("beyond it", 109, x.ofTrain(0, 0));
        Check.due("missed both", 2, x.ofTrain(0, 13));
        Check.due("none is to come", -1, x.ofTrain(0, 6));
    }

    private static void missesAStationAMetreBehind() {
        BrakeCurve x = beyondTheStationAt100(103);
        Check.due("missed both", 2, x.ofTrain(0, 13));
        Check.due("none is to come", -1, x.ofTrain(0, 6));
        Check.due("all missed", 2, x.many(8));
    }

    private static void stationsThatItMissedAreNotToComeAnyMore() {
        BrakeCurve x = beyondTheStationAt100(103);
        x.pass(300);
        Check.due("missed once each", 2, x.ofTrain(0, 13));
        Check.due("nobody stopped", 0, x.ofStation(0, 2) + x.ofStation(1, 2));
        Check.due("it left", 1, x.ofTrain(0, 7));
    }

    // ---- (4) As all have gone

    private static void overrunIsAMetreAboveTheAuthority() {
        BrakeCurve x = Lines.overrunByOneMetre();
        Check.due("authority", 149, x.ofTrain(0, 3));
        Check.due("head", 150, x.ofTrain(0, 0));
        Check.due("overrun", 1, x.ofTrain(0, 12));
    }

    private static void overrunIsNotAtTheAuthority() {
        BrakeCurve x = Lines.crawling();
        x.works(1, 1);
        x.train(20, 4, 1, false);
        x.pass(300);
        Check.due("authority", 149, x.ofTrain(0, 3));
        Check.due("head", 149, x.ofTrain(0, 0));
        Check.due("no overrun", 0, x.ofTrain(0, 12));
    }

    private static void overrunIsCountedForEachSecond() {
        BrakeCurve x = Lines.overrun(false);
        Check.due("the first second", 1, x.ofTrain(0, 12));
        x.pass(1);
        Check.due("the second one", 2, x.ofTrain(0, 12));
        x.pass(300);
        Check.due("each one", 302, x.ofTrain(0, 12));
        Check.due("of all trains", 302, x.many(7));
    }

    private static void gapIsOfTheRearAheadAndTheHead() {
        BrakeCurve x = Lines.rearAt(21);
        x.train(20, 4, 1, false);
        Check.due("none as it is told", -1, x.ofTrain(1, 14));
        x.pass(1);
        Check.due("22 less 19, and less 1", 2, x.ofTrain(1, 14));
        Check.due("the one ahead has none", -1, x.ofTrain(0, 14));
    }

    /** The rear ahead comes from 40 to 41 while the head goes from 19 to 20, so that 20 metres lie between. */
    private static void gapIsTakenAsAllHaveGone() {
        BrakeCurve x = Lines.rearAt(40);
        x.train(20, 4, 1, false);
        x.pass(1);
        Check.due("both have gone", 20, x.ofTrain(1, 14));
    }

    private static void leastGapIsKept() {
        BrakeCurve x = Lines.rearAt(21);
        x.train(20, 4, 1, false);
        x.pass(5);
        Check.due("the gap is 6", 7, x.ofTrain(0, 1) - x.ofTrain(1, 0));
        Check.due("the least one is kept", 2, x.ofTrain(1, 14));
        BrakeCurve y = Lines.aheadOfACrash();
        Check.due("180 less 166, and less 1", 13, y.ofTrain(1, 14));
        y.pass(1);
        Check.due("180 less 183, and less 1, is less", -4, y.ofTrain(1, 14));
    }

    private static void gapOf0IsNoCrash() {
        BrakeCurve x = Lines.met(1);
        Check.due("rear ahead", 204, x.ofTrain(0, 1));
        Check.due("head", 203, x.ofTrain(1, 0));
        Check.due("gap", 0, x.ofTrain(1, 14));
        Check.due("no crash", 0, x.ofTrain(1, 7));
        Check.due("no crash", 0, x.ofTrain(0, 7));
        Check.due("none crashed", 0, x.many(3));
        x.pass(300);
        Check.due("they go on", 2, x.many(2));
    }

    private static void gapBelow0IsACrash() {
        BrakeCurve x = Lines.met(0);
        Check.due("rear ahead", 203, x.ofTrain(0, 1));
        Check.due("head", 203, x.ofTrain(1, 0));
        Check.due("gap", -1, x.ofTrain(1, 14));
        Check.due("crash", 2, x.ofTrain(1, 7));
        Check.due("crash", 2, x.ofTrain(0, 7));
        Check.due("both crashed", 2, x.many(3));
    }

    private static void bothThatCrashedStayForGood() {
        BrakeCurve x = Lines.aheadOfACrash();
        Check.due("speed ahead of the crash", 19, x.ofTrain(1, 2));
        x.pass(1);
        for (int passed = 0; passed <= 2; passed++) {
            Check.due("speed of the one behind", 0, x.ofTrain(1, 2));
            Check.due("speed of the one ahead", 0, x.ofTrain(0, 2));
            Check.due("head of the one behind", 183, x.ofTrain(1, 0));
            Check.due("head of the one ahead", 199, x.ofTrain(0, 0));
            Check.due("dwell of the one ahead is left", 49, x.ofTrain(0, 5));
            Check.due("braked as before the crash", 3, x.ofTrain(1, 11));
            x.pass(300);
        }
        BrakeCurve y = Lines.crashedAtTheEnd(50, 72);
        Check.due("one that crashed with a speed stays", 3002, y.ofTrain(1, 0));
        Check.due("and has none", 0, y.ofTrain(1, 2));
    }

    private static void stationsOfOneThatCrashedAreStillToCome() {
        BrakeCurve x = Lines.of(40, 2);
        x.station(1000, 5);
        x.station(199, 60);
        x.train(20, 4, 3, true);
        Lines.passUntilStopped(x, 1);
        x.train(20, 4, 3, false);
        x.pass(8);
        x.section(0, 40, -2, true);
        x.section(1, 40, -2, true);
        Lines.pass(x, 303);
        Check.due("both crashed", 2, x.many(3));
        Check.due("the next station is to come for good", 0, x.ofTrain(0, 6));
        Check.due("it missed none", 0, x.ofTrain(0, 13));
        Check.due("it may go as far as that", 40, x.may(0));
        Check.due("but does not", 199, x.ofTrain(0, 0));
    }

    /** The rear of train 1, which crashed, is at 164; train 2 comes to it as train 1 came to train 0. */
    private static void aThirdOneCrashes() {
        BrakeCurve x = Lines.crashed();
        x.section(0, 40, 2, true);
        x.section(1, 40, 2, true);
        x.train(20, 4, 3, false);
        // hold 6 and 154 as its authority: 22, 28, 37, 49, 64, 82, 103
        x.pass(7);
        Check.due("its head", 103, x.ofTrain(2, 0));
        Check.due("its authority", 154, x.ofTrain(2, 3));
        x.section(0, 40, -2, true);
        x.section(1, 40, -2, true);
        // hold 2, by 2 each second from 21: 19, 17, 15 and 13
        x.pass(4);
        Check.due("its head", 167, x.ofTrain(2, 0));
        Check.due("it crashed", 2, x.ofTrain(2, 7));
        Check.due("into one that had crashed", 2, x.ofTrain(1, 7));
        Check.due("three crashed", 3, x.many(3));
        Check.due("its gap", -4, x.ofTrain(2, 14));
        Check.due("the gap of the second one", -4, x.ofTrain(1, 14));
        x.pass(300);
        Check.due("it stays", 167, x.ofTrain(2, 0));
    }

    private static void oneThatCrashedOverrunsUntilItGetsItsAuthority() {
        BrakeCurve x = Lines.crashed();
        Check.due("authority", 170, x.ofTrain(1, 3));
        Check.due("overrun", 1, x.ofTrain(1, 12));
        x.pass(1);
        Check.due("authority is its head", 183, x.ofTrain(1, 3));
        Check.due("no overrun", 1, x.ofTrain(1, 12));
        BrakeCurve y = Lines.aheadOfACrash();
        y.section(1, 40, -2, false);
        y.pass(1);
        y.pass(10);
        Check.due("without radio it keeps its authority", 170, y.ofTrain(1, 3));
        Check.due("and overruns in each second", 11, y.ofTrain(1, 12));
    }

    // ---- (5) LEFT

    private static void rearAt2999HasNotLeft() {
        BrakeCurve x = Lines.rearAt(2999);
        Check.due("rear", 2999, x.ofTrain(0, 1));
        Check.due("not left", 0, x.ofTrain(0, 7));
        Check.due("speed", 1, x.ofTrain(0, 2));
        Check.due("none left", 0, x.many(2));
        Check.noState("a train is there", x, () -> x.station(5, 5));
    }

    private static void rearAt3000HasLeft() {
        BrakeCurve x = Lines.rearAt(3000);
        Check.due("rear", 3000, x.ofTrain(0, 1));
        Check.due("left", 1, x.ofTrain(0, 7));
        Check.due("one left", 1, x.many(2));
        Check.due("no train is there", 0, x.station(5, 5));
    }

    private static void rearAbove3000HasLeft() {
        BrakeCurve x = Lines.crashedAtTheEnd(53, 75);
        Check.due("rear", 3001, x.ofTrain(1, 1));
        Check.due("left", 1, x.ofTrain(1, 7));
    }

    private static void speedIs0AsItHasLeft() {
        BrakeCurve x = new BrakeCurve();
        x.train(20, 4, 3, false);
        for (int second = 0; second < 120 && x.ofTrain(0, 7) == 0; second++) {
            Check.isTrue("it goes until it leaves", second == 0 || x.ofTrain(0, 2) > 0);
            x.pass(1);
        }
        Check.due("left", 1, x.ofTrain(0, 7));
        Check.due("its speed", 0, x.ofTrain(0, 2));
    }

    /** The rear ahead goes from 2999 to 3000 while the head goes by 2, so that the gap grows less once more. */
    private static void gapIsTakenInTheSecondInWhichTheOneAheadLeaves() {
        BrakeCurve x = Lines.rearAt(2998);
        x.train(20, 4, 1, false);
        x.pass(1);
        Check.due("2999 less 20, and less 1", 2978, x.ofTrain(1, 14));
        x.section(0, 3, 0, true);
        Check.due("it leaves", 1, x.pass(1));
        // its head goes by 2 to 22
        Check.due("3000 less 22, and less 1", 2977, x.ofTrain(1, 14));
        x.pass(10);
        Check.due("no gap any more", 2977, x.ofTrain(1, 14));
    }

    private static void crashesAndLeavesInTheSameSecond() {
        BrakeCurve x = Lines.crashedAtTheEnd(53, 75);
        Check.due("train 0 left", 1, x.ofTrain(0, 7));
        Check.due("train 1 left", 1, x.ofTrain(1, 7));
        Check.due("both left", 2, x.many(2));
        Check.due("both crashed", 2, x.many(3));
        BrakeCurve y = Lines.crashedAtTheEnd(50, 72);
        Check.due("train 0 left as it crashed", 1, y.ofTrain(0, 7));
        Check.due("train 1 stays", 2, y.ofTrain(1, 7));
        Check.due("one left", 1, y.many(2));
        Check.due("both crashed", 2, y.many(3));
    }
}
