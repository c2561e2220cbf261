/** The sentences of the document's terms (1. The line, 2. Trains) that name a boundary, each with a test of its own. */
public final class EdgesOfTermsTest {
    public static void main(String[] args) {
        theLine();
        trains();
        Check.end("EdgesOfTermsTest");
    }

    private static void theLine() {
        sectionsAreOf150Metres();
        metresAbove2999AreOfTheSection19();
        metresAbove2999AreOfTheSection19AsTheRearIsBelowIt();
        limitIsFrom1To40();
        limitIs40AtFirst();
        gradeIs0AtFirst();
        radioIsThereAtFirst();
        trainsGoTowardsTheGreaterMetresAlone();
        dwellIsFrom0To60();
        stationsAreAt0AndAt2999();
        noStation();
        fourStations();
        threeWorksAtATime();
        worksFromASectionToTheSameOneAndToAllOthers();
    }

    private static void trains() {
        noTrain();
        fourTrainsEver();
        lengthIsFrom20To200();
        brakeIsFrom1To4();
        pullIsFrom1To3();
        speedIs0AtFirst();
        wholeAtFirst();
        stationsComeInTheOrderOfTheirMetres();
        rearIsHeadLessLengthAnd1();
        headIsLengthLess1AsItIsTold();
        aheadIsTheOneToldJustBefore();
        aheadIsNoneOnceThatHasLeft();
        aheadIsNoOtherThanTheOneJustBefore();
        reportsAtOnceAsItIsTold();
        holdIs1AtLeast();
        holdIsByTheSectionOfTheHead();
        toStopFromNothingNeedsNothing();
        toStopIsRoundedUp();
        authorityIsTheHeadAsItIsTold();
        mayStopJustAtTheAuthority();
        mayStopJustAtTheStation();
        mayBe0AtAStation();
        mayBe0BeyondTheAuthority();
        mayBe0AtTheAuthority();
        mayIsByTheSectionsFromTheRearToTheHead();
    }

    // ---- 1. The line

    private static void sectionsAreOf150Metres() {
        BrakeCurve x = Lines.rearAt(1);
        for (int section = 1; section <= 19; section++) {
            int first = 150 * section;
            Lines.pass(x, first - 1 - x.ofTrain(0, 0));
            Check.due("head a metre below the section " + section, 0, x.ofSection(section, 3));
            x.pass(1);
            Check.due("head at the first metre of the section " + section, 1, x.ofSection(section, 3));
            x.pass(18);
            Check.due("rear at the last metre of the section " + (section - 1), 1, x.ofSection(section - 1, 3));
            x.pass(1);
            Check.due("rear at the first metre of the section " + section, 0, x.ofSection(section - 1, 3));
            Check.due("it is in the section " + section, 1, x.ofSection(section, 3));
        }
    }

    private static void metresAbove2999AreOfTheSection19() {
        BrakeCurve x = Lines.rearAt(2980);
        Check.due("head at 2999", 2999, x.ofTrain(0, 0));
        Check.due("head at 2999: in the section 19", 1, x.ofSection(19, 3));
        x.pass(1);
        Check.due("head at 3000: in the section 19", 1, x.ofSection(19, 3));
        x.section(19, 7, -2, true);
        Check.due("head at 3000: grade of the section 19", 40 + 390, x.stops(0, 40));
        // 19 metres are left: 7 and 42 / 4 are 18
        Check.due("head at 3000: limit of the section 19", 7, x.may(0));
        x.section(19, 1, 0, false);
        x.pass(1);
        Check.due("head at 3000: no radio, so that 2999 was reported last", 2999, x.ofTrain(0, 8));
        Check.due("head at 3000: no radio, so that it is known by the second 2981", 2981, x.ofTrain(0, 10));
        x.section(19, 1, 0, true);
        x.pass(1);
        Check.due("head at 3001: radio again", 3001, x.ofTrain(0, 8));
        Lines.pass(x, 2999 - x.ofTrain(0, 1));
        Check.due("rear at 2999: in the section 19", 1, x.ofSection(19, 3));
    }

    private static void metresAbove2999AreOfTheSection19AsTheRearIsBelowIt() {
        BrakeCurve x = Lines.crawling();
        x.train(200, 4, 1, false);
        Lines.pass(x, 2811);
        Check.due("head", 3010, x.ofTrain(0, 0));
        Check.due("in the section 17", 0, x.ofSection(17, 3));
        Check.due("in the section 18", 1, x.ofSection(18, 3));
        Check.due("in the section 19", 1, x.ofSection(19, 3));
        x.section(17, 2, 0, true);
        x.section(18, 9, 0, true);
        x.section(19, 30, 0, true);
        Check.due("limit of the section 18", 9, x.may(0));
        x.section(19, 8, 0, true);
        Check.due("limit of the section 19", 8, x.may(0));
    }

    private static void limitIsFrom1To40() {
        BrakeCurve x = new BrakeCurve();
        x.section(0, 1, 0, true);
        x.train(20, 4, 3, false);
        x.pass(9);
        Check.due("limit 1", 28, x.ofTrain(0, 0));
        Check.due("limit 1", 1, x.ofTrain(0, 2));
        x.section(0, 40, 0, true);
        x.pass(12);
        // 4, 7, .. 37 in 12 seconds
        Check.due("limit 40, as yet", 37, x.ofTrain(0, 2));
        x.pass(1);
        Check.due("limit 40", 40, x.ofTrain(0, 2));
        x.pass(1);
        Check.due("limit 40, and no more", 40, x.ofTrain(0, 2));
    }

    private static void limitIs40AtFirst() {
        BrakeCurve x = new BrakeCurve();
        for (int section = 0; section < 20; section++) {
            Check.due("at first, limit of " + section, 40, x.ofSection(section, 0));
        }
        x.train(200, 4, 3, false);
        x.pass(14);
        for (int second = 15; second <= 70; second++) {
            Check.due("at first, in second " + second, 40, x.ofTrain(0, 2));
            x.pass(1);
        }
    }

    private static void gradeIs0AtFirst() {
        BrakeCurve x = new BrakeCurve();
        x.train(20, 4, 3, false);
        for (int section = 0; section < 20; section++) {
            Check.due("at first, grade of " + section, 0, x.ofSection(section, 1));
        }
        for (int second = 0; second <= 90; second += 3) {
            Check.due("at first, hold 4 in second " + second, 40 + 195, x.stops(0, 40));
            x.pass(3);
        }
    }

    private static void radioIsThereAtFirst() {
        BrakeCurve x = new BrakeCurve();
        for (int section = 0; section < 20; section++) {
            Check.due("at first, radio of " + section, 1, x.ofSection(section, 2));
        }
        x.train(20, 4, 3, false);
        for (int second = 1; second <= 80; second++) {
            x.pass(1);
            Check.due("at first, it reports everywhere", second, x.ofTrain(0, 10));
        }
    }

    private static void trainsGoTowardsTheGreaterMetresAlone() {
        BrakeCurve x = Lines.overrun(false);
        // from 15 by 2 each second: 167, 178, 187, 194, 199, 202, 203
        x.pass(7);
        Check.due("it stands beyond its authority", 203, x.ofTrain(0, 0));
        Check.due("its authority", 149, x.ofTrain(0, 3));
        x.pass(300);
        Check.due("it does not go back", 203, x.ofTrain(0, 0));
        Check.due("its speed is not below 0", 0, x.ofTrain(0, 2));
    }

    private static void dwellIsFrom0To60() {
        BrakeCurve x = Lines.crawling();
        x.station(20, 60);
        x.train(20, 4, 1, true);
        x.pass(2);
        Check.due("dwell 60 as it has stopped", 60, x.ofTrain(0, 5));
        x.pass(59);
        Check.due("dwell 1 after 59 seconds", 1, x.ofTrain(0, 5));
        x.pass(1);
        Check.due("dwell 0 after 60 seconds", 0, x.ofTrain(0, 5));
        Check.due("it stayed", 20, x.ofTrain(0, 0));
        x.pass(1);
        Check.due("it goes in the next one", 21, x.ofTrain(0, 0));
        BrakeCurve y = Lines.crawling();
        y.station(20, 0);
        y.train(20, 4, 1, true);
        y.pass(2);
        Check.due("dwell 0 as it has stopped", 0, y.ofTrain(0, 5));
        Check.due("it stopped all the same", 1, y.ofStation(0, 2));
        Check.due("and stands", 20, y.ofTrain(0, 0));
        y.pass(1);
        Check.due("it goes in the next one", 21, y.ofTrain(0, 0));
        BrakeCurve z = Lines.crawling();
        z.station(20, 1);
        z.train(20, 4, 1, true);
        z.pass(3);
        Check.due("dwell 1: it stays for a second", 20, z.ofTrain(0, 0));
        z.pass(1);
        Check.due("dwell 1: and goes", 21, z.ofTrain(0, 0));
    }

    private static void stationsAreAt0AndAt2999() {
        BrakeCurve x = Lines.crawling();
        x.station(0, 5);
        x.station(2999, 2);
        x.train(20, 4, 1, true);
        Check.due("the station at 0 is behind its head", 1, x.ofTrain(0, 6));
        Lines.pass(x, 2980);
        Check.due("at 2999", 2999, x.ofTrain(0, 0));
        Check.due("not yet stopped", 1, x.ofTrain(0, 6));
        x.pass(1);
        Check.due("stopped at 2999", 1, x.ofStation(1, 2));
        Check.due("dwell", 2, x.ofTrain(0, 5));
        x.pass(3);
        Check.due("and beyond", 3000, x.ofTrain(0, 0));
        Check.due("nobody stopped at 0", 0, x.ofStation(0, 2));
        Check.due("nor missed it", 0, x.ofTrain(0, 13));
    }

    private static void noStation() {
        BrakeCurve x = Lines.crawling();
        Check.due("no station", 0, x.many(4));
        x.train(20, 4, 1, true);
        Check.due("none to stop at", -1, x.ofTrain(0, 6));
        Check.due("it leaves", 1, Lines.pass(x, 3000));
        Check.due("in 3000 seconds", 3000, x.ofTrain(0, 1));
        Check.due("it missed none", 0, x.many(8));
    }

    private static void fourStations() {
        BrakeCurve x = Lines.crawling();
        x.station(25, 0);
        x.station(24, 1);
        x.station(22, 2);
        x.station(19, 3);
        Check.due("four", 4, x.many(4));
        x.train(20, 4, 1, true);
        // stops in 1, goes in 5, 6, stops in 7, goes in 10, 11, stops in 12, goes in 14, stops in 15, goes in 16
        int[] heads = {19, 19, 19, 19, 20, 21, 22, 22, 22, 22, 23, 24, 24, 24, 25, 25, 26};
        int[] nexts = {2, 2, 2, 2, 2, 2, 2, 1, 1, 1, 1, 1, 0, 0, 0, -1, -1};
        for (int second = 1; second <= heads.length; second++) {
            x.pass(1);
            Check.due("head in second " + second, heads[second - 1], x.ofTrain(0, 0));
            Check.due("next station in second " + second, nexts[second - 1], x.ofTrain(0, 6));
        }
        for (int station = 0; station < 4; station++) {
            Check.due("it stopped at " + station, 1, x.ofStation(station, 2));
        }
    }

    private static void threeWorksAtATime() {
        BrakeCurve x = new BrakeCurve();
        for (int time = 1; time <= 5; time++) {
            x.works(1, 1);
            x.works(2, 2);
            Check.due("three works", 3, x.works(3, 3));
            Check.noState("a fourth one", x, () -> x.works(4, 4));
            Check.due("the second ones end", 2, x.end(1));
            Check.due("so that there may be others", 3, x.works(4, 4));
            Check.noState("and again a fourth one", x, () -> x.works(5, 5));
            x.end(2);
            x.end(1);
            Check.due("no works", 0, x.end(0));
        }
    }

    private static void worksFromASectionToTheSameOneAndToAllOthers() {
        int[][] all = {{0, 0}, {19, 19}, {0, 19}, {7, 7}, {7, 8}};
        for (int[] one : all) {
            BrakeCurve x = new BrakeCurve();
            Check.due("works", 1, x.works(one[0], one[1]));
            for (int section = 0; section < 20; section++) {
                Check.due("works from " + one[0] + " to " + one[1] + " are in " + section,
                        one[0] <= section && section <= one[1] ? 1 : 0, x.ofSection(section, 4));
            }
        }
    }

    // ---- 2. Trains

    private static void noTrain() {
        BrakeCurve x = new BrakeCurve();
        Check.due("no train", 0, x.many(1));
        Check.due("none leaves", 0, x.pass(300));
        Check.due("none left", 0, x.many(2));
        Check.due("none crashed", 0, x.many(3));
        Check.due("none braked", 0, x.many(6));
        Check.due("none went", 0, x.many(9));
        Check.due("none is anywhere", 0, x.ofSection(0, 3));
        Check.due("none hinders works", 1, x.works(0, 19));
    }

    private static void fourTrainsEver() {
        BrakeCurve x = new BrakeCurve();
        for (int number = 0; number < 4; number++) {
            Check.due("number", number, x.train(20, 4, 3, false));
            Check.due("it leaves", 1, x.pass(300));
        }
        Check.due("four", 4, x.many(1));
        Check.noState("a fifth one, though all have left", x, () -> x.train(20, 4, 3, false));
    }

    private static void lengthIsFrom20To200() {
        BrakeCurve x = new BrakeCurve();
        Check.due("length 20", 0, x.train(20, 4, 3, false));
        // 3, 6, .. 39 and two times 40 are 353
        x.pass(15);
        Check.due("its rear", 353, x.ofTrain(0, 1));
        Check.due("its head", 372, x.ofTrain(0, 0));
        Check.due("length 200", 1, x.train(200, 4, 3, false));
        Check.due("its rear", 0, x.ofTrain(1, 1));
        Check.due("its head", 199, x.ofTrain(1, 0));
    }

    private static void brakeIsFrom1To4() {
        for (int brake = 1; brake <= 4; brake++) {
            BrakeCurve x = new BrakeCurve();
            x.train(20, brake, 2, false);
            x.pass(7);
            x.section(0, 1, 0, true);
            x.pass(1);
            Check.due("brake " + brake + ": from 14", 14 - brake, x.ofTrain(0, 2));
            x.pass(1);
            Check.due("brake " + brake + ": again", 14 - 2 * brake, x.ofTrain(0, 2));
        }
    }

    private static void pullIsFrom1To3() {
        for (int pull = 1; pull <= 3; pull++) {
            BrakeCurve x = new BrakeCurve();
            x.train(20, 4, pull, false);
            x.pass(1);
            Check.due("pull " + pull, pull, x.ofTrain(0, 2));
            x.pass(1);
            Check.due("pull " + pull + ": again", 2 * pull, x.ofTrain(0, 2));
            Check.due("pull " + pull + ": head", 19 + 3 * pull, x.ofTrain(0, 0));
        }
    }

    private static void speedIs0AtFirst() {
        BrakeCurve x = new BrakeCurve();
        x.pass(10);
        x.train(20, 4, 3, false);
        Check.due("speed at first", 0, x.ofTrain(0, 2));
        Check.due("mean speed at first", (Object) 0.0, (Object) x.meanSpeed());
    }

    private static void wholeAtFirst() {
        BrakeCurve x = new BrakeCurve();
        x.train(20, 4, 3, false);
        Check.due("whole at first", 1, x.ofTrain(0, 4));
        x.whole(0, false);
        x.pass(20);
        x.train(20, 4, 3, false);
        Check.due("whole at first, though the one ahead is not", 1, x.ofTrain(1, 4));
        Check.due("it was", (Object) true, (Object) x.whole(1, true));
    }

    private static void stationsComeInTheOrderOfTheirMetres() {
        BrakeCurve x = new BrakeCurve();
        x.station(2999, 0);
        x.station(1000, 0);
        x.station(999, 0);
        x.station(1001, 0);
        x.train(20, 4, 3, true);
        int[] due = {2, 1, 3, 0};
        for (int station : due) {
            Check.due("the next one", station, x.ofTrain(0, 6));
            Lines.passUntilStopped(x, station);
        }
        Check.due("no more", -1, x.ofTrain(0, 6));
        Check.due("none missed", 0, x.ofTrain(0, 13));
    }

    private static void rearIsHeadLessLengthAnd1() {
        BrakeCurve x = new BrakeCurve();
        x.train(57, 4, 3, false);
        for (int second = 0; second < 10; second++) {
            Check.due("rear", x.ofTrain(0, 0) - 57 + 1, x.ofTrain(0, 1));
            x.pass(1);
        }
    }

    private static void headIsLengthLess1AsItIsTold() {
        for (int length : new int[] {20, 21, 150, 151, 199, 200}) {
            BrakeCurve x = new BrakeCurve();
            x.train(length, 4, 3, false);
            Check.due("head of one of length " + length, length - 1, x.ofTrain(0, 0));
            Check.due("rear of one of length " + length, 0, x.ofTrain(0, 1));
            Check.due("its head is in the section 1", length > 150 ? 1 : 0, x.ofSection(1, 3));
        }
    }

    private static void aheadIsTheOneToldJustBefore() {
        BrakeCurve x = new BrakeCurve();
        for (int number = 0; number < 4; number++) {
            x.train(20, 4, 3, false);
            x.pass(15);
        }
        for (int number = 0; number < 4; number++) {
            Check.due("ahead of " + number, number - 1, x.ofTrain(number, 15));
        }
    }

    private static void aheadIsNoneOnceThatHasLeft() {
        BrakeCurve x = Lines.rearAt(100);
        x.train(20, 4, 1, false);
        Lines.pass(x, 2899);
        Check.due("the rear of the one ahead is at 2999", 2999, x.ofTrain(0, 1));
        Check.due("it is ahead as yet", 0, x.ofTrain(1, 15));
        Check.due("by its report", 1, x.why(1));
        x.pass(1);
        Check.due("none is ahead", -1, x.ofTrain(1, 15));
        Check.due("to the end of the line", 0, x.why(1));
        Check.due("its authority is as it got it before", 2989, x.ofTrain(1, 3));
        int gap = x.ofTrain(1, 14);
        x.pass(1);
        Check.due("its authority is the end", 3019, x.ofTrain(1, 3));
        Check.due("there is no gap any more", gap, x.ofTrain(1, 14));
    }

    /** Train 0 crashed and stays at 2998, train 1 crashed and left: neither is ahead of train 2. */
    private static void aheadIsNoOtherThanTheOneJustBefore() {
        BrakeCurve x = Lines.crashedAtTheEnd(51, 75);
        Check.due("train 0 stays", 2, x.ofTrain(0, 7));
        Check.due("train 1 left", 1, x.ofTrain(1, 7));
        x.train(20, 4, 3, false);
        Check.due("none is ahead", -1, x.ofTrain(2, 15));
        Check.due("to the end of the line", 0, x.why(2));
        Check.due("no gap to come", -1, x.closest(2, 120));
        Check.due("it leaves", 1, x.pass(300));
        Check.due("without a gap", -1, x.ofTrain(2, 14));
        Check.due("and did not crash", 2, x.many(3));
        Check.due("train 0 stays for good", 2998, x.ofTrain(0, 1));
    }

    private static void reportsAtOnceAsItIsTold() {
        BrakeCurve x = new BrakeCurve();
        x.section(0, 40, 0, false);
        x.section(1, 40, 0, false);
        x.pass(5);
        x.train(170, 4, 3, false);
        x.pass(7);
        Check.due("known head, though there is no radio", 169, x.ofTrain(0, 8));
        Check.due("known rear", 0, x.ofTrain(0, 9));
        Check.due("in the second in which it was told", 5, x.ofTrain(0, 10));
    }

    private static void holdIs1AtLeast() {
        // from 40: 40, and 40 * 39 / (2 * hold) for the holds 1 to 6
        int[] metres = {0, 820, 430, 300, 235, 196, 170};
        for (int brake = 1; brake <= 4; brake++) {
            BrakeCurve x = new BrakeCurve();
            x.train(20, brake, 1, false);
            for (int grade = -2; grade <= 2; grade++) {
                x.section(0, 40, grade, true);
                int hold = brake + grade < 1 ? 1 : brake + grade;
                Check.due("brake " + brake + ", grade " + grade, metres[hold], x.stops(0, 40));
            }
        }
        BrakeCurve y = new BrakeCurve();
        y.train(20, 1, 3, false);
        y.pass(4);
        y.section(0, 1, -2, true);
        y.pass(1);
        Check.due("it brakes by 1", 11, y.ofTrain(0, 2));
    }

    private static void holdIsByTheSectionOfTheHead() {
        BrakeCurve x = Lines.rearAt(130);
        x.section(0, 1, 2, true);
        x.section(1, 1, -2, true);
        Check.due("head at 149", 170, x.stops(0, 40));
        x.pass(1);
        Check.due("head at 150", 430, x.stops(0, 40));
    }

    private static void toStopFromNothingNeedsNothing() {
        BrakeCurve x = new BrakeCurve();
        x.train(20, 1, 1, false);
        Check.due("from 0", 0, x.stops(0, 0));
        Check.due("from 1: 1, and 0", 1, x.stops(0, 1));
    }

    private static void toStopIsRoundedUp() {
        BrakeCurve x = new BrakeCurve();
        x.train(20, 4, 1, false);
        x.section(0, 40, 2, true);
        Check.due("2 / 12 is 1", 2 + 1, x.stops(0, 2));
        Check.due("12 / 12 is 1", 4 + 1, x.stops(0, 4));
        Check.due("20 / 12 is 2", 5 + 2, x.stops(0, 5));
        Check.due("72 / 12 is 6", 9 + 6, x.stops(0, 9));
        Check.due("90 / 12 is 8", 10 + 8, x.stops(0, 10));
        Check.due("110 / 12 is 10", 11 + 10, x.stops(0, 11));
    }

    private static void authorityIsTheHeadAsItIsTold() {
        for (int works = 0; works <= 1; works++) {
            for (int length : new int[] {20, 200}) {
                BrakeCurve x = new BrakeCurve();
                if (works == 1) {
                    x.works(0, 1);
                }
                x.train(length, 4, 3, false);
                Check.due("authority as it is told", length - 1, x.ofTrain(0, 3));
                Check.due("so that it may not go", 0, x.may(0));
            }
        }
    }

    /** From 34 with hold 6 it needs 34 and 1122 / 12, which is 94: 128 metres, from 33 it needs 33 and 88: 121. */
    private static void mayStopJustAtTheAuthority() {
        for (int length = 22; length <= 23; length++) {
            BrakeCurve x = Lines.of(40, 2);
            x.station(length - 1, 60);
            x.works(1, 1);
            x.train(length, 4, 3, true);
            x.pass(1);
            Check.due("authority", 149, x.ofTrain(0, 3));
            Check.due("head", length - 1, x.ofTrain(0, 0));
            Check.due("by " + (150 - length) + " metres", length == 22 ? 34 : 33, x.may(0));
        }
    }

    private static void mayStopJustAtTheStation() {
        for (int metre = 148; metre <= 149; metre++) {
            BrakeCurve x = Lines.of(40, 2);
            x.station(metre, 60);
            x.station(21, 60);
            x.train(22, 4, 3, true);
            x.pass(1);
            Check.due("authority", 3021, x.ofTrain(0, 3));
            Check.due("by the station at " + metre, metre == 149 ? 34 : 33, x.may(0));
        }
    }

    private static void mayBe0AtAStation() {
        BrakeCurve x = Lines.crawling();
        x.station(20, 5);
        x.train(20, 4, 1, true);
        x.pass(1);
        Check.due("it is at the station", 20, x.ofTrain(0, 0));
        Check.due("but did not stop yet", 0, x.ofTrain(0, 6));
        Check.due("within 0 metres", 0, x.may(0));
        x.pass(1);
        Check.due("it stopped, and the station is not to come any more", 1, x.may(0));
    }

    private static void mayBe0BeyondTheAuthority() {
        BrakeCurve x = Lines.overrun(false);
        Check.due("head", 154, x.ofTrain(0, 0));
        Check.due("authority", 149, x.ofTrain(0, 3));
        Check.due("it may not go", 0, x.may(0));
    }

    private static void mayBe0AtTheAuthority() {
        BrakeCurve x = Lines.crawling();
        x.works(1, 1);
        x.train(20, 4, 1, false);
        x.pass(129);
        Check.due("a metre ahead of its authority", 148, x.ofTrain(0, 0));
        Check.due("it may go 1", 1, x.may(0));
        x.pass(1);
        Check.due("at its authority", 149, x.ofTrain(0, 0));
        Check.due("it may not go", 0, x.may(0));
    }

    private static void mayIsByTheSectionsFromTheRearToTheHead() {
        BrakeCurve x = Lines.rearAt(130);
        x.section(0, 30, 0, true);
        x.section(1, 7, 0, true);
        Check.due("head at 149", 30, x.may(0));
        x.section(0, 1, 0, true);
        x.pass(1);
        x.section(0, 30, 0, true);
        Check.due("head at 150", 7, x.may(0));
        x.section(0, 1, 0, true);
        x.pass(18);
        x.section(0, 3, 0, true);
        Check.due("rear at 149", 149, x.ofTrain(0, 1));
        Check.due("rear at 149: the least of both", 3, x.may(0));
        x.section(0, 1, 0, true);
        x.pass(1);
        Check.due("rear at 150", 7, x.may(0));
    }
}
