/** The sentences of promises 1 to 8 that name a boundary, each with a test of its own (refusals: RefusedTest). */
public final class EdgesOfToldTest {
    public static void main(String[] args) {
        aNewObjectIsWithoutTrains();
        section();
        station();
        train();
        wholeReturnsWhetherItWas();
        wholeOfOneThatHasLeftOrCrashed();
        works();
        end();
        pass();
        Check.end("EdgesOfToldTest");
    }

    private static void section() {
        sectionReturnsItsLimitBefore();
        sectionTellsThatSectionAlone();
        sectionIsToldAlsoUnderTrains();
    }

    private static void station() {
        stationReturnsItsNumber();
        stationMayBeNextToAnother();
        stationNeedsThatNoTrainIsThere();
        stationAgainAsAllHaveLeft();
    }

    private static void train() {
        trainReturnsItsNumber();
        trainStopsAtStationsAtItsHead();
        trainStopsNotAtStationsBehindItsHead();
        trainStopsAtNoneIfItIsNotStopping();
        trainNeedsARearAboveItsLength();
        trainNeedsRoomBehindOneThatCrashed();
        trainNeedsNoRoomBehindOneThatHasLeft();
    }

    private static void works() {
        worksReturnHowManyThereAre();
        worksNotWhereAHeadIs();
        worksNotWhereARearIs();
        worksNotBetweenRearAndHead();
        worksNotUnderMetresAbove2999();
        worksWhereOneHasLeft();
        worksNotWithinAnAuthority();
        worksJustBeyondAnAuthority();
        worksNotWithinTheAuthorityOfOneThatCrashed();
        worksWithinAnAuthorityButBehindItsHead();
        worksAnswerTheTrainThereFirst();
        worksDoNothingIfHindered();
    }

    private static void end() {
        endsTheOnesOfThatNumber();
        endReturnsHowManyAreLeft();
    }

    private static void pass() {
        passIsFrom1To300();
        passReturnsThoseThatLeftInThem();
        passInPartsIsAsPassAtOnce();
    }

    private static void aNewObjectIsWithoutTrains() {
        BrakeCurve x = new BrakeCurve();
        for (int what = 0; what <= 9; what++) {
            Check.due("many(" + what + ") of a new object", 0, x.many(what));
        }
        Check.due("mean speed of a new object", (Object) 0.0, (Object) x.meanSpeed());
        Check.noIndex("no train", x, () -> x.ofTrain(0, 0));
        Check.noIndex("no station", x, () -> x.ofStation(0, 0));
        Check.noIndex("no works", x, () -> x.end(0));
    }

    // ---- Promise 2

    private static void sectionReturnsItsLimitBefore() {
        for (int section : new int[] {0, 7, 19}) {
            BrakeCurve x = new BrakeCurve();
            Check.due("at first", 40, x.section(section, 1, -2, false));
            Check.due("the least", 1, x.section(section, 40, 2, true));
            Check.due("the greatest", 40, x.section(section, 9, 0, true));
            Check.due("another", 9, x.section(section, 9, 0, true));
            Check.due("the same", 9, x.section(section, 8, 0, true));
        }
    }

    private static void sectionTellsThatSectionAlone() {
        for (int told : new int[] {0, 7, 19}) {
            BrakeCurve x = new BrakeCurve();
            x.section(told, 5, -1, false);
            for (int section = 0; section < 20; section++) {
                String what = told + " was told, and " + section + " has ";
                Check.due(what + "limit", section == told ? 5 : 40, x.ofSection(section, 0));
                Check.due(what + "grade", section == told ? -1 : 0, x.ofSection(section, 1));
                Check.due(what + "radio", section == told ? 0 : 1, x.ofSection(section, 2));
            }
        }
    }

    private static void sectionIsToldAlsoUnderTrains() {
        BrakeCurve x = Lines.rearAt(10);
        x.works(0, 0);
        Check.due("limit before", 1, x.section(0, 2, 0, true));
        x.pass(1);
        Check.due("it goes as the section is now", 31, x.ofTrain(0, 0));
    }

    // ---- Promise 3

    private static void stationReturnsItsNumber() {
        BrakeCurve x = new BrakeCurve();
        int[] metres = {2999, 0, 1, 2998};
        for (int number = 0; number < 4; number++) {
            Check.due("number", number, x.station(metres[number], 20 * number));
        }
        for (int number = 0; number < 4; number++) {
            Check.due("its metre", metres[number], x.ofStation(number, 0));
            Check.due("its dwell", 20 * number, x.ofStation(number, 1));
            Check.due("stopped there", 0, x.ofStation(number, 2));
        }
    }

    private static void stationMayBeNextToAnother() {
        BrakeCurve x = new BrakeCurve();
        x.station(500, 5);
        Check.noArgument("there is one at it", x, () -> x.station(500, 6));
        Check.due("a metre below", 1, x.station(499, 5));
        Check.due("a metre above", 2, x.station(501, 5));
        Check.noArgument("there is one at it", x, () -> x.station(499, 5));
        Check.noArgument("there is one at it", x, () -> x.station(501, 5));
    }

    private static void stationNeedsThatNoTrainIsThere() {
        BrakeCurve x = new BrakeCurve();
        x.train(20, 4, 3, false);
        Check.noState("a train is there as it is told", x, () -> x.station(500, 5));
        BrakeCurve y = Lines.rearAt(2999);
        Check.noState("a train is there with its rear at 2999", y, () -> y.station(500, 5));
        BrakeCurve z = Lines.crashedAtTheEnd(51, 75);
        Check.due("one has left", 1, z.many(2));
        Check.noState("one that crashed is there", z, () -> z.station(500, 5));
    }

    private static void stationAgainAsAllHaveLeft() {
        BrakeCurve x = Lines.rearAt(3000);
        Check.due("the train has left", 0, x.station(500, 5));
        BrakeCurve y = Lines.crashedAtTheEnd(53, 75);
        Check.due("both crashed, but left", 0, y.station(500, 5));
        y.train(20, 4, 3, true);
        Check.due("the next one stops there", 0, y.ofTrain(2, 6));
        Check.due("who has left does not", -1, y.ofTrain(1, 6));
    }

    // ---- Promise 4

    private static void trainReturnsItsNumber() {
        BrakeCurve x = new BrakeCurve();
        Check.due("the first", 0, x.train(20, 4, 3, false));
        x.pass(300);
        Check.due("the second, as the first has left", 1, x.train(20, 4, 3, false));
        x.pass(20);
        Check.due("the third, as the second is there", 2, x.train(20, 4, 3, false));
        x.pass(20);
        Check.due("the fourth", 3, x.train(20, 4, 3, false));
    }

    private static void trainStopsAtStationsAtItsHead() {
        for (int length : new int[] {20, 200}) {
            BrakeCurve x = new BrakeCurve();
            x.station(length - 1, 5);
            x.train(length, 4, 3, true);
            Check.due("the station is its head", 0, x.ofTrain(0, 6));
            x.pass(1);
            Check.due("it stops there at once", 1, x.ofStation(0, 2));
            Check.due("dwell", 5, x.ofTrain(0, 5));
        }
    }

    private static void trainStopsNotAtStationsBehindItsHead() {
        for (int length : new int[] {20, 200}) {
            BrakeCurve x = new BrakeCurve();
            x.station(length - 2, 5);
            x.station(length, 5);
            x.train(length, 4, 3, true);
            Check.due("a metre below its head is none, a metre above is one", 1, x.ofTrain(0, 6));
            x.pass(100);
            Check.due("it missed none", 0, x.ofTrain(0, 13));
            Check.due("it did not stop behind its head", 0, x.ofStation(0, 2));
            Check.due("but at the other one", 1, x.ofStation(1, 2));
        }
    }

    private static void trainStopsAtNoneIfItIsNotStopping() {
        BrakeCurve x = new BrakeCurve();
        x.station(19, 5);
        x.station(500, 5);
        x.train(20, 4, 3, false);
        Check.due("none", -1, x.ofTrain(0, 6));
        Check.due("it leaves", 1, x.pass(100));
        Check.due("nobody stopped", 0, x.ofStation(0, 2) + x.ofStation(1, 2));
        Check.due("nobody missed one", 0, x.many(8));
    }

    private static void trainNeedsARearAboveItsLength() {
        for (int length : new int[] {20, 21, 200}) {
            BrakeCurve x = Lines.rearAt(length - 1);
            Check.noState("rear below its length", x, () -> x.train(length, 1, 1, false));
            x.pass(1);
            Check.noState("rear at its length", x, () -> x.train(length, 1, 1, false));
            x.pass(1);
            Check.due("rear above its length", 1, x.train(length, 1, 1, false));
        }
    }

    private static void trainNeedsRoomBehindOneThatCrashed() {
        BrakeCurve x = Lines.crashed();
        Check.due("the rear of the last one", 164, x.ofTrain(1, 1));
        Check.noState("rear at its length", x, () -> x.train(164, 1, 1, false));
        Check.due("rear above its length", 2, x.train(163, 1, 1, false));
    }

    private static void trainNeedsNoRoomBehindOneThatHasLeft() {
        BrakeCurve x = Lines.rearAt(3000);
        Check.due("the longest", 1, x.train(200, 1, 1, false));
        Check.noState("but the next one needs some", x, () -> x.train(20, 1, 1, false));
        BrakeCurve y = Lines.crashedAtTheEnd(51, 75);
        Check.due("train 0 is there, train 1 has left", 2, y.train(200, 1, 1, false));
    }

    // ---- Promise 5

    private static void wholeReturnsWhetherItWas() {
        BrakeCurve x = Lines.rearAt(100);
        x.train(20, 4, 1, false);
        Check.due("at first", (Object) true, (Object) x.whole(1, false));
        Check.due("the other one is whole", 1, x.ofTrain(0, 4));
        Check.due("not any more", (Object) false, (Object) x.whole(1, false));
        Check.due("as before", (Object) false, (Object) x.whole(1, true));
        Check.due("again", (Object) true, (Object) x.whole(1, true));
        Check.due("it is", 1, x.ofTrain(1, 4));
    }

    private static void wholeOfOneThatHasLeftOrCrashed() {
        BrakeCurve x = Lines.rearAt(3000);
        Check.due("one that has left was", (Object) true, (Object) x.whole(0, false));
        Check.due("and is not", (Object) false, (Object) x.whole(0, false));
        BrakeCurve y = Lines.crashed();
        Check.due("one that crashed was", (Object) true, (Object) y.whole(1, false));
        y.pass(5);
        Check.due("so that its rear stays as known", 147, y.ofTrain(1, 9));
        Check.due("but its head does not", 183, y.ofTrain(1, 8));
    }

    // ---- Promise 6

    private static void worksReturnHowManyThereAre() {
        BrakeCurve x = new BrakeCurve();
        Check.due("the first and the last section", 1, x.works(0, 19));
        Check.due("the same once more", 2, x.works(0, 19));
        Check.due("and once more", 3, x.works(0, 19));
    }

    private static void worksNotWhereAHeadIs() {
        BrakeCurve x = Lines.rearAt(130);
        x.section(0, 1, 0, false);
        Check.due("its head is at 149, and its authority beyond", -3, x.works(1, 1));
        x.pass(1);
        Check.due("its head is at 150", -2, x.works(1, 1));
        Check.due("works up to there", -2, x.works(0, 1));
        Check.due("works from there", -2, x.works(1, 19));
    }

    private static void worksNotWhereARearIs() {
        BrakeCurve x = Lines.rearAt(149);
        Check.due("its rear is at 149", -2, x.works(0, 0));
        x.pass(1);
        Check.due("its rear is at 150", 1, x.works(0, 0));
    }

    private static void worksNotBetweenRearAndHead() {
        BrakeCurve x = Lines.crawling();
        x.train(200, 4, 1, false);
        x.pass(101);
        Check.due("head", 300, x.ofTrain(0, 0));
        Check.due("rear", 101, x.ofTrain(0, 1));
        Check.due("the section of its rear", -2, x.works(0, 0));
        Check.due("the section between", -2, x.works(1, 1));
        Check.due("the section of its head", -2, x.works(2, 2));
        Check.due("the section ahead", -3, x.works(3, 3));
    }

    private static void worksNotUnderMetresAbove2999() {
        BrakeCurve x = Lines.rearAt(2999);
        Check.due("rear at 2999", -2, x.works(19, 19));
        Check.due("the section before is free", 1, x.works(18, 18));
        BrakeCurve y = Lines.crawling();
        y.train(200, 4, 1, false);
        Lines.pass(y, 2840);
        Check.due("head at 3039, rear at 2840", -2, y.works(19, 19));
    }

    private static void worksWhereOneHasLeft() {
        BrakeCurve x = Lines.rearAt(3000);
        Check.due("it has left", 1, x.works(19, 19));
        Check.due("it has left", 2, x.works(0, 19));
    }

    /** Train 1 gets its authority ten metres behind the rear of train 0, and then has no radio. */
    private static BrakeCurve authorityAt(int metre) {
        BrakeCurve x = Lines.rearAt(metre + 10);
        x.train(20, 4, 1, false);
        x.pass(1);
        Check.due("authority", metre, x.ofTrain(1, 3));
        x.section(0, 1, 0, false);
        x.section(metre / 150 == 0 ? 1 : metre / 150, 40, 0, true);
        x.section(2, 40, 0, true);
        x.pass(100);
        return x;
    }

    private static void worksNotWithinAnAuthority() {
        BrakeCurve x = authorityAt(150);
        Check.due("authority at the first metre of the works", -3, x.works(1, 1));
        BrakeCurve y = authorityAt(151);
        Check.due("authority above it", -3, y.works(1, 1));
    }

    private static void worksJustBeyondAnAuthority() {
        BrakeCurve x = authorityAt(149);
        Check.due("authority a metre below their first", 1, x.works(1, 1));
    }

    private static void worksNotWithinTheAuthorityOfOneThatCrashed() {
        BrakeCurve x = Lines.crashed();
        Check.due("the authority of train 0 is the end of the line", -3, x.works(10, 10));
        Check.due("its head", -2, x.works(1, 1));
        x.pass(300);
        Check.due("and stays so", -3, x.works(2, 2));
    }

    private static void worksWithinAnAuthorityButBehindItsHead() {
        BrakeCurve x = new BrakeCurve();
        x.train(20, 4, 3, false);
        x.pass(15);
        Check.due("authority", 3019, x.ofTrain(0, 3));
        Check.due("rear", 353, x.ofTrain(0, 1));
        Check.due("behind it", 1, x.works(0, 1));
        Check.due("ahead of it", -3, x.works(3, 3));
    }

    private static void worksAnswerTheTrainThereFirst() {
        BrakeCurve x = Lines.rearAt(300);
        x.train(20, 4, 1, false);
        x.pass(1);
        Check.due("train 1 has its authority there", 290, x.ofTrain(1, 3));
        Check.due("within the authority of train 1 alone", -3, x.works(1, 1));
        Check.due("train 0 is there, within the authority of train 1", -2, x.works(1, 2));
        Check.due("train 1 is there", -2, x.works(0, 0));
    }

    private static void worksDoNothingIfHindered() {
        BrakeCurve x = Lines.rearAt(10);
        BrakeCurve y = Lines.rearAt(10);
        Check.due("hindered by the train", -2, x.works(0, 0));
        Check.due("hindered by its authority", -3, x.works(1, 1));
        Check.due("no works", 0, x.many(5));
        for (int i = 0; i < 20; i++) {
            Check.due("as if it had not been asked", y.digest(), x.digest());
            Check.due("none there", 0, x.ofSection(i, 4));
            Check.due("as many leave", Lines.pass(y, 160), Lines.pass(x, 160));
        }
        Check.due("the first works", 1, x.works(0, 0));
    }

    // ---- Promise 7

    private static void endsTheOnesOfThatNumber() {
        for (int number = 0; number < 3; number++) {
            BrakeCurve x = new BrakeCurve();
            x.works(9, 9);
            x.works(3, 3);
            x.works(6, 6);
            int[] sections = {9, 3, 6};
            Check.due("two are left", 2, x.end(number));
            for (int works = 0; works < 3; works++) {
                Check.due("works " + works + " as " + number + " have ended", works == number ? 0 : 1,
                        x.ofSection(sections[works], 4));
            }
            x.works(12, 12);
            // those begun last are the last
            Check.due("two are left", 2, x.end(2));
            Check.due("those begun last have ended", 0, x.ofSection(12, 4));
            x.end(0);
            Check.due("those begun first have ended", 0, x.ofSection(number == 0 ? 3 : 9, 4));
        }
    }

    private static void endReturnsHowManyAreLeft() {
        BrakeCurve x = new BrakeCurve();
        x.works(1, 1);
        x.works(2, 2);
        x.works(3, 3);
        Check.noIndex("works 3 of 3", x, () -> x.end(3));
        Check.due("two", 2, x.end(2));
        Check.noIndex("works 2 of 2", x, () -> x.end(2));
        Check.due("one", 1, x.end(1));
        Check.noIndex("works 1 of 1", x, () -> x.end(1));
        Check.due("none", 0, x.end(0));
        Check.noIndex("works 0 of none", x, () -> x.end(0));
    }

    // ---- Promise 8

    private static void passIsFrom1To300() {
        BrakeCurve x = Lines.rearAt(10);
        x.pass(1);
        Check.due("one second", 11, x.ofTrain(0, 1));
        x.pass(300);
        Check.due("300 seconds", 311, x.ofTrain(0, 1));
        Check.due("now", 311, x.many(0));
    }

    private static void passReturnsThoseThatLeftInThem() {
        BrakeCurve x = new BrakeCurve();
        for (int number = 0; number < 4; number++) {
            x.train(20, 4, 3, false);
            Check.due("none yet", 0, x.pass(15));
        }
        Check.due("all four", 4, x.pass(300));
        Check.due("none more", 0, x.pass(300));
        BrakeCurve y = Lines.rearAt(2999);
        y.train(20, 4, 1, false);
        Check.due("one in the next second", 1, y.pass(1));
        Check.due("none in the second after", 0, y.pass(1));
        Check.due("one of two that crash", 1, Lines.aheadOfACrashAtTheEnd(51, 75).pass(60));
        Check.due("both that crash", 2, Lines.aheadOfACrashAtTheEnd(53, 75).pass(60));
    }

    private static void passInPartsIsAsPassAtOnce() {
        BrakeCurve x = Lines.full();
        BrakeCurve y = Lines.full();
        x.pass(90);
        for (int second = 0; second < 90; second++) {
            y.pass(1);
        }
        Check.due("90 times 1 is 90", x.digest(), y.digest());
    }
}
