/** The document's terms 2 and 3 by way of pass() (promise 8): what becomes of trains, second by second, by hand. */
public final class SecondTest {
    public static void main(String[] args) {
        reportsComeAheadOfGoing();
        noRadioNoReportNoAuthority();
        authorityByTheReportOfTheOneAhead();
        authorityByTheSectionOfTheOneAhead();
        authorityByWorks();
        pullsUpToTheLimit();
        limitHoldsFromRearToHead();
        holdIsOneAtLeast();
        holdGrowsUphill();
        stopsAtAStationAndDwells();
        stopsAtAStationWithoutDwell();
        standsAtAStationFromTheBeginning();
        stationsComeInOrderOfTheirMetres();
        missesAStation();
        missesTwoStationsAtOnce();
        overrunsWithoutRadio();
        overrunsIntoWorksWithRadio();
        overrunsToTheFirstMetreOfWorks();
        crashes();
        crashesByAMetreOrNot();
        crashesAndLeaves();
        theLastOneLeavesBehindOneThatCrashed();
        leaves();
        Check.end("SecondTest");
    }

    /** ofTrain() of a row of numbers and what they are due. */
    private static void train(String what, BrakeCurve x, int train, int... pairs) {
        for (int i = 0; i < pairs.length; i += 2) {
            Check.due(what + ": ofTrain(" + train + ", " + pairs[i] + ")", pairs[i + 1], x.ofTrain(train, pairs[i]));
        }
    }

    /** Passes a second for each head, and tells whether the train has it then. */
    private static void heads(String what, BrakeCurve x, int train, int... heads) {
        for (int head : heads) {
            x.pass(1);
            Check.due(what + " in second " + x.many(0), head, x.ofTrain(train, 0));
        }
    }

    private static BrakeCurve line(int limit, int grade) {
        BrakeCurve x = new BrakeCurve();
        for (int section = 0; section < 20; section++) {
            x.section(section, limit, grade, true);
        }
        return x;
    }

    private static void reportsComeAheadOfGoing() {
        BrakeCurve x = new BrakeCurve();
        x.train(20, 4, 3, false);
        x.pass(1);
        train("report", x, 0, 0, 22, 1, 3, 2, 3, 8, 19, 9, 0, 10, 1);
        x.pass(1);
        train("report", x, 0, 0, 28, 1, 9, 2, 6, 8, 22, 9, 3, 10, 2);
    }

    private static void noRadioNoReportNoAuthority() {
        BrakeCurve x = new BrakeCurve();
        x.section(0, 40, 0, false);
        x.train(20, 4, 3, false);
        x.pass(5);
        train("no radio", x, 0, 0, 19, 2, 0, 3, 19, 8, 19, 9, 0, 10, 0, 11, 0);
        x.section(0, 40, 0, true);
        x.pass(1);
        train("radio again", x, 0, 0, 22, 2, 3, 3, 3019, 8, 19, 9, 0, 10, 6);
        x.section(0, 40, 0, false);
        x.whole(0, false);
        x.pass(2);
        train("it keeps its authority", x, 0, 0, 37, 2, 9, 3, 3019, 8, 19, 9, 0, 10, 6);
    }

    private static void authorityByTheReportOfTheOneAhead() {
        BrakeCurve x = line(1, 0);
        x.train(20, 4, 1, false);
        x.pass(100);
        x.train(20, 4, 1, false);
        train("as told", x, 1, 3, 19, 14, -1, 15, 0);
        x.pass(1);
        train("rear at 100 as it reports", x, 1, 0, 20, 3, 90, 14, 80);
        x.whole(0, false);
        x.pass(3);
        train("a rear that is not known anew", x, 0, 9, 100, 10, 104, 8, 122);
        train("a rear that is not known anew", x, 1, 0, 23, 3, 90, 14, 80);
        Check.due("it is by the report all the same", 1, x.why(1));
        x.whole(0, true);
        x.pass(1);
        train("a rear that is known again", x, 1, 0, 24, 3, 94);
    }

    /** The one ahead reports its rear at 280 last, in second 281, as its head goes to the section 2 without radio. */
    private static void authorityByTheSectionOfTheOneAhead() {
        BrakeCurve x = line(1, 0);
        x.section(2, 1, 0, false);
        x.train(20, 4, 1, false);
        x.pass(200);
        x.train(20, 4, 1, false);
        x.pass(84);
        train("3 seconds ago", x, 0, 0, 303, 3, 3019, 8, 299, 9, 280, 10, 281);
        train("3 seconds ago", x, 1, 0, 103, 3, 270);
        Check.due("by the report", 1, x.why(1));
        x.pass(1);
        train("4 seconds ago", x, 1, 0, 104, 3, 149, 2, 1);
        Check.due("by the section", 2, x.why(1));
        x.pass(45);
        train("at the end of its authority", x, 1, 0, 149, 2, 1, 3, 149, 11, 0);
        x.pass(1);
        train("it stands", x, 1, 0, 149, 2, 0, 3, 149, 11, 1);
        Check.due("its head is not above the least", 2, x.why(1));
    }

    private static void authorityByWorks() {
        BrakeCurve x = new BrakeCurve();
        x.works(10, 12);
        x.works(5, 6);
        x.works(11, 11);
        x.train(20, 4, 3, false);
        x.pass(1);
        train("the least first metre less 1", x, 0, 3, 749);
        Check.due("works", 3, x.why(0));
        x.end(1);
        train("it is given its way as it reports", x, 0, 3, 749);
        x.pass(1);
        train("the next ones", x, 0, 3, 1499);
        x.pass(120);
        train("it stands ahead of them", x, 0, 0, 1499, 2, 0);
        x.end(0);
        x.pass(1);
        train("those at 11", x, 0, 3, 1649, 0, 1502);
    }

    private static void pullsUpToTheLimit() {
        BrakeCurve x = new BrakeCurve();
        x.train(20, 1, 3, false);
        int head = 19;
        for (int second = 1; second <= 15; second++) {
            x.pass(1);
            head += Math.min(40, 3 * second);
            train("pull 3", x, 0, 0, head, 2, Math.min(40, 3 * second), 11, 0);
        }
        BrakeCurve y = line(5, 0);
        y.train(20, 1, 2, false);
        heads("pull 2 up to 5", y, 0, 21, 25, 30, 35);
    }

    private static void limitHoldsFromRearToHead() {
        BrakeCurve x = new BrakeCurve();
        x.section(1, 5, 0, true);
        x.train(100, 2, 3, false);
        heads("to the section 1", x, 0, 102, 108, 117, 129, 144, 162);
        heads("braking by 2", x, 0, 178, 192, 204, 214, 222, 228, 233, 238);
        train("it braked", x, 0, 2, 5, 11, 7);
        x.pass(32);
        train("its rear is in the section 1", x, 0, 0, 398, 1, 299, 2, 5);
        heads("until its rear is out of it", x, 0, 403, 411, 422);
        train("it braked no more", x, 0, 2, 11, 11, 7);
    }

    private static void holdIsOneAtLeast() {
        BrakeCurve x = new BrakeCurve();
        x.section(1, 5, -2, true);
        x.train(100, 1, 3, false);
        heads("to the section 1", x, 0, 102, 108, 117, 129, 144, 162);
        heads("braking by 1", x, 0, 179, 195, 210);
        Check.due("hold 1", 20 + 190, x.stops(0, 20));
    }

    private static void holdGrowsUphill() {
        BrakeCurve x = new BrakeCurve();
        x.section(1, 5, 2, true);
        x.train(100, 4, 3, false);
        heads("to the section 1", x, 0, 102, 108, 117, 129, 144, 162);
        Check.due("hold 6", 20 + 32, x.stops(0, 20));
        heads("braking by 6", x, 0, 174, 180, 185, 190);
        train("it braked", x, 0, 2, 5, 11, 3);
    }

    private static void stopsAtAStationAndDwells() {
        BrakeCurve x = new BrakeCurve();
        x.station(30, 2);
        x.train(20, 4, 1, true);
        heads("to the station", x, 0, 20, 22, 25, 28, 29, 30);
        train("it is there, but has a speed", x, 0, 2, 1, 5, 0, 6, 0, 11, 1);
        Check.due("it did not stop yet", 0, x.ofStation(0, 2));
        heads("it stops", x, 0, 30);
        train("it stops", x, 0, 2, 0, 5, 2, 6, -1, 11, 2);
        Check.due("it stopped", 1, x.ofStation(0, 2));
        heads("dwell", x, 0, 30);
        train("dwell", x, 0, 5, 1);
        heads("dwell", x, 0, 30);
        train("dwell", x, 0, 5, 0);
        heads("it goes", x, 0, 31, 33, 36);
        train("it goes", x, 0, 2, 3, 11, 2, 13, 0);
    }

    private static void stopsAtAStationWithoutDwell() {
        BrakeCurve x = line(1, 0);
        x.station(21, 0);
        x.train(20, 4, 1, true);
        heads("no dwell", x, 0, 20, 21, 21, 22, 23);
        Check.due("it stopped", 1, x.ofStation(0, 2));
        BrakeCurve y = line(1, 0);
        y.station(21, 0);
        y.train(20, 4, 1, false);
        heads("one that stops nowhere", y, 0, 20, 21, 22, 23);
        Check.due("it did not stop", 0, y.ofStation(0, 2));
        train("nor did it miss it", y, 0, 13, 0);
    }

    private static void standsAtAStationFromTheBeginning() {
        BrakeCurve x = new BrakeCurve();
        x.station(19, 3);
        x.station(18, 3);
        x.train(20, 4, 3, true);
        Check.due("it may not go", 0, x.may(0));
        heads("it stops at once", x, 0, 19);
        train("it stops at once", x, 0, 5, 3, 6, -1, 11, 0);
        heads("and goes", x, 0, 19, 19, 19, 22);
        Check.due("where it began", 1, x.ofStation(0, 2));
        Check.due("not behind it", 0, x.ofStation(1, 2));
        train("which it did not miss", x, 0, 13, 0);
    }

    private static void stationsComeInOrderOfTheirMetres() {
        BrakeCurve x = line(1, 0);
        x.station(24, 1);
        x.station(3, 1);
        x.station(21, 1);
        x.station(22, 0);
        x.train(20, 4, 1, true);
        train("the least first", x, 0, 6, 2);
        heads("to 21", x, 0, 20, 21, 21);
        train("the next", x, 0, 6, 3);
        heads("dwell, and to 22", x, 0, 21, 22, 22);
        train("the next", x, 0, 6, 0);
        heads("to 24", x, 0, 23, 24, 24);
        train("none", x, 0, 6, -1);
        Check.due("one each", 1, x.ofStation(0, 2));
        Check.due("one each", 0, x.ofStation(1, 2));
        Check.due("one each", 1, x.ofStation(2, 2));
        Check.due("one each", 1, x.ofStation(3, 2));
    }

    private static void missesAStation() {
        BrakeCurve x = line(40, 2);
        x.station(100, 5);
        x.train(20, 4, 3, true);
        heads("hold 6", x, 0, 22, 28, 37, 49, 64);
        Check.due("hold 6", 15 + 18, x.stops(0, 15));
        x.section(0, 40, -2, true);
        Check.due("hold 2", 15 + 53, x.stops(0, 15));
        heads("hold 2", x, 0, 77, 88, 97);
        train("not yet", x, 0, 2, 9, 6, 0, 13, 0);
        heads("beyond", x, 0, 104);
        train("missed", x, 0, 2, 7, 5, 0, 6, -1, 11, 4, 13, 1);
        Check.due("nobody stopped", 0, x.ofStation(0, 2));
        Check.due("missed", 1, x.many(8));
        heads("it goes on", x, 0, 114, 127);
    }

    private static void missesTwoStationsAtOnce() {
        BrakeCurve x = line(40, 2);
        x.station(103, 5);
        x.station(104, 0);
        x.station(100, 5);
        x.station(98, 5);
        x.train(20, 4, 3, true);
        // hold 6: as if the station at 98 were alone
        heads("hold 6", x, 0, 22, 28, 37, 49, 64);
        x.section(0, 40, -2, true);
        // hold 2: 13 of at most 10 for 34 metres, 11 of 8 for 21, 9 of 4 for 10: 97; 7 of 1: 104
        heads("hold 2", x, 0, 77, 88, 97, 104);
        train("it missed three, and is at the fourth", x, 0, 2, 7, 6, 1, 13, 3);
        heads("beyond it", x, 0, 109);
        train("it missed all", x, 0, 6, -1, 13, 4);
        Check.due("all missed", 4, x.many(8));
    }

    private static BrakeCurve onTheWayToOverrun(boolean hasRadio) {
        BrakeCurve x = line(40, 2);
        x.works(1, 1);
        x.train(20, 4, 3, false);
        heads("hold 6", x, 0, 22, 28, 37, 49, 64, 82, 103);
        x.section(0, 40, -2, true);
        x.section(1, 40, -2, hasRadio);
        heads("hold 2", x, 0, 122, 139);
        train("not yet", x, 0, 3, 149, 12, 0);
        heads("above its authority", x, 0, 154);
        train("above its authority", x, 0, 2, 15, 3, 149, 11, 3, 12, 1);
        return x;
    }

    private static void overrunsWithoutRadio() {
        BrakeCurve x = onTheWayToOverrun(false);
        Check.due("it may not go", 0, x.may(0));
        heads("it brakes", x, 0, 167, 178, 187, 194, 199, 202, 203, 203);
        train("it stands", x, 0, 2, 0, 3, 149, 8, 139, 10, 10, 11, 11, 12, 9);
        x.pass(1);
        train("overrun counts on, braking does not", x, 0, 2, 0, 11, 11, 12, 10);
        Check.due("overruns", 10, x.many(7));
        Check.due("braked", 11, x.many(6));
    }

    private static void overrunsIntoWorksWithRadio() {
        BrakeCurve x = onTheWayToOverrun(true);
        heads("works behind its head count no more", x, 0, 172);
        train("works behind its head count no more", x, 0, 2, 18, 3, 3019, 11, 3, 12, 1);
    }

    private static void overrunsToTheFirstMetreOfWorks() {
        BrakeCurve x = line(40, 2);
        x.works(1, 1);
        x.train(20, 4, 3, false);
        heads("hold 6", x, 0, 22, 28, 37, 49, 64, 82, 103, 121, 134, 143);
        x.section(0, 40, -2, true);
        heads("hold 2", x, 0, 150);
        train("at the first metre of the works", x, 0, 2, 7, 3, 149, 12, 1);
        heads("they are not above its head", x, 0, 160);
        train("they are not above its head", x, 0, 2, 10, 3, 3019, 12, 1);
    }

    private static BrakeCurve aheadOfACrash() {
        BrakeCurve x = line(40, 2);
        x.station(199, 60);
        x.train(20, 4, 3, true);
        for (int second = 0; second < 60 && x.ofStation(0, 2) == 0; second++) {
            x.pass(1);
        }
        train("the first one stands", x, 0, 0, 199, 1, 180, 5, 60);
        x.train(20, 4, 3, false);
        heads("hold 6", x, 1, 22, 28, 37, 49, 64, 82, 103, 126);
        train("authority by its rear", x, 1, 3, 170, 14, 53);
        x.section(0, 40, -2, true);
        x.section(1, 40, -2, true);
        heads("hold 2", x, 1, 147, 166);
        train("the least gap", x, 1, 2, 19, 14, 13, 12, 0);
        return x;
    }

    private static void crashes() {
        BrakeCurve x = aheadOfACrash();
        Check.due("closest of what comes", -4, x.closest(1, 5));
        heads("crash", x, 1, 183);
        train("crash", x, 1, 2, 0, 3, 170, 7, 2, 12, 1, 14, -4, 15, 0);
        // 60 less the 11 seconds since it stopped
        train("crash", x, 0, 2, 0, 7, 2, 5, 49, 14, -1);
        Check.due("both crashed", 2, x.many(3));
        Check.due("none left", 0, x.many(2));
        x.pass(100);
        train("they stay, and report", x, 1, 0, 183, 2, 0, 3, 183, 8, 183, 9, 164, 10, x.many(0), 12, 1, 14, -4);
        train("they stay", x, 0, 0, 199, 5, 49, 7, 2);
        Check.due("they would not go", -1, x.reaches(1, 184, 600));
        Check.due("they would not go", -1, x.reaches(0, 200, 600));
        Check.due("works could never begin there", -1, x.worksIn(1, 1, 300));
        Check.due("the gap stays below 0", -4, x.closest(1, 1));
        x.train(20, 4, 3, false);
        x.pass(60);
        train("the third one stands behind them", x, 2, 0, 154, 14, 9, 7, 0);
        Check.due("two crashed", 2, x.many(3));
        Check.due("mean of three that stand", (Object) 0.0, (Object) x.meanSpeed());
    }

    /** The head comes to 203, and the rear ahead of it is at 203 or at 204. */
    private static void crashesByAMetreOrNot() {
        for (int more = 0; more <= 1; more++) {
            BrakeCurve x = line(40, 2);
            x.station(222 + more, 60);
            x.train(20, 4, 3, true);
            for (int second = 0; second < 60 && x.ofStation(0, 2) == 0; second++) {
                x.pass(1);
            }
            x.train(20, 4, 3, false);
            heads("hold 6", x, 1, 22, 28, 37, 49, 64, 82, 103);
            x.section(0, 40, -2, true);
            x.section(1, 40, -2, true);
            heads("hold 2", x, 1, 122, 139, 154, 167, 178, 187, 194, 199, 202);
            train("one metre or two are left", x, 0, 1, 203 + more);
            heads("both stand", x, 1, 203, 203);
            train("a gap of -1 or of 0", x, 1, 14, more - 1, 7, more == 0 ? 2 : 0, 2, 0);
            Check.due("both or none crashed", more == 0 ? 2 : 0, x.many(3));
        }
    }

    private static BrakeCurve crashAtTheEnd(int apart, int until) {
        BrakeCurve x = line(40, 2);
        x.section(19, 1, 2, true);
        x.train(20, 4, 3, false);
        x.pass(apart);
        x.train(20, 4, 3, false);
        x.pass(until);
        x.section(17, 40, -2, true);
        x.section(18, 40, -2, true);
        x.section(19, 1, -2, true);
        return x;
    }

    private static void crashesAndLeaves() {
        BrakeCurve x = crashAtTheEnd(53, 75);
        Check.due("both leave", 2, x.pass(60));
        train("the first one", x, 0, 0, 3019, 7, 1, 2, 0);
        train("the second one", x, 1, 0, 3020, 7, 1, 2, 0, 15, -1, 14, -21);
        Check.due("both crashed", 2, x.many(3));
        Check.due("and both left", 2, x.many(2));
        BrakeCurve y = crashAtTheEnd(50, 72);
        Check.due("the first one leaves", 1, y.pass(60));
        train("the first one", y, 0, 0, 3019, 7, 1);
        train("the second one", y, 1, 0, 3002, 7, 2, 15, -1, 14, -3);
        Check.due("both crashed", 2, y.many(3));
        Check.due("one left", 1, y.many(2));
    }

    private static void theLastOneLeavesBehindOneThatCrashed() {
        BrakeCurve x = crashAtTheEnd(51, 75);
        Check.due("the second one leaves", 1, x.pass(60));
        train("the first one", x, 0, 0, 3017, 1, 2998, 7, 2);
        train("the second one", x, 1, 0, 3020, 1, 3001, 7, 1, 14, -23, 15, 0);
        Check.due("it has left", -1, x.closest(1, 5));
        Check.due("it has left", -1, x.why(1));
        Check.due("it has left", 0, x.may(1));
        Check.due("the first one is on the last section", 1, x.ofSection(19, 3));
        Check.due("none is ahead of the next one", -1, x.ofTrain(x.train(20, 4, 3, false), 15));
    }

    private static void leaves() {
        BrakeCurve x = line(40, 0);
        x.train(150, 4, 3, false);
        x.pass(100);
        train("it left with its rear at 3000", x, 0, 0, 3149, 1, 3000, 2, 0, 3, 3149, 7, 1);
        int[] before = new int[16];
        for (int what = 0; what < 16; what++) {
            before[what] = x.ofTrain(0, what);
        }
        x.pass(300);
        for (int what = 0; what < 16; what++) {
            Check.due("one that has left stays so, " + what, before[what], x.ofTrain(0, what));
        }
    }
}
