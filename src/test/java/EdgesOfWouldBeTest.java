import java.math.BigInteger;
import java.util.ArrayList;
import java.util.List;

/** The sentences of promises 17 to 21 that name a boundary, each with a test of its own (refusals: RefusedTest). */
public final class EdgesOfWouldBeTest {
    public static void main(String[] args) {
        reaches();
        closest();
        lost();
        worksIn();
        digest();
        nothingIsChanged();
        as512CallsAreMade();
        Check.end("EdgesOfWouldBeTest");
    }

    private static void reaches() {
        reachesIs0IfItIsThere();
        reachesIs0IfItIsBeyond();
        reachesIs0IfItHasLeft();
        reachesWithinTheLastOfTheSeconds();
        reachesFrom1To600Seconds();
        reachesFrom0To2999Metres();
        reachesWhatItGoesBeyond();
        reachesNoneIfItStays();
        reachesNoneIfItCrashedOrWill();
        reachesNoneWithoutRadio();
        reachesAsItStopsAndDwells();
        reachesAsTheRearAheadIsKnown();
    }

    private static void closest() {
        closestIsNoneWithoutOneAhead();
        closestIsNoneIfItHasLeft();
        closestFrom1To120Seconds();
        closestInTheseSecondsAlone();
        closestToOneThatStandsStill();
        closestByTheReportFor3Seconds();
        closestByAReportThatIsOldAlready();
        closestIs0();
        closestIsBelow0();
        closestToOneThatCrashed();
    }

    private static void lost() {
        lostFrom1To300Seconds();
        lostWithLimitsFrom1To40();
        lostIsBelow0();
        lostIsNothingWithTheLimitThatItHas();
        lostInTheSectionsAtTheEnds();
        lostIsNothingOfOneThatHasLeftOrCrashed();
        lostByTheOneAhead();
    }

    private static void worksIn() {
        worksInIs0Now();
        worksInIs0WithoutTrains();
        worksInWhetherOrNotThereAre3();
        worksInTheLastOfTheSeconds();
        worksInFrom1To300Seconds();
        worksInTheSectionsAtTheEnds();
        worksInAsATrainLeaves();
        worksInNoneByAnAuthority();
        worksInNoneByOneThatCrashed();
    }

    private static void digest() {
        digestOfANewObject();
        digestWrapsAround();
        digestOfAsManyAsThereMayBe();
        digestOfThoseThatLeftAndCrashed();
        digestAsksReachesOf2000And90();
        digestAsksWorksInOf5And6And60();
    }

    // ---- Promise 17

    private static void reachesIs0IfItIsThere() {
        BrakeCurve x = Lines.rearAt(100);
        Check.due("its head is there", 0, x.reaches(0, 119, 1));
        Check.due("it is a metre ahead", 1, x.reaches(0, 120, 1));
    }

    private static void reachesIs0IfItIsBeyond() {
        BrakeCurve x = Lines.rearAt(100);
        Check.due("its head is a metre beyond", 0, x.reaches(0, 118, 1));
        Check.due("the first metre", 0, x.reaches(0, 0, 600));
    }

    private static void reachesIs0IfItHasLeft() {
        Check.due("it has left", 0, Lines.rearAt(3000).reaches(0, 2999, 1));
        Check.due("it has left and crashed", 0, Lines.crashedAtTheEnd(53, 75).reaches(1, 2999, 600));
    }

    private static void reachesWithinTheLastOfTheSeconds() {
        BrakeCurve x = Lines.rearAt(100);
        Check.due("in the last second", 7, x.reaches(0, 126, 7));
        Check.due("not within one less", -1, x.reaches(0, 126, 6));
        Check.due("first, though there are more", 7, x.reaches(0, 126, 8));
    }

    private static void reachesFrom1To600Seconds() {
        BrakeCurve x = Lines.rearAt(100);
        Check.due("1 second", 1, x.reaches(0, 120, 1));
        Check.due("not within 1 second", -1, x.reaches(0, 121, 1));
        Check.due("600 seconds", 600, x.reaches(0, 719, 600));
        Check.due("not within 600 seconds", -1, x.reaches(0, 720, 600));
    }

    private static void reachesFrom0To2999Metres() {
        BrakeCurve x = Lines.rearAt(2900);
        Check.due("metre 2999", 80, x.reaches(0, 2999, 600));
        Check.due("metre 0", 0, x.reaches(0, 0, 600));
    }

    private static void reachesWhatItGoesBeyond() {
        BrakeCurve x = new BrakeCurve();
        x.train(20, 4, 3, false);
        // 22, 28, 37
        Check.due("at 22", 1, x.reaches(0, 22, 5));
        Check.due("beyond 23", 2, x.reaches(0, 23, 5));
        Check.due("at 28", 2, x.reaches(0, 28, 5));
        Check.due("beyond 29", 3, x.reaches(0, 29, 5));
    }

    private static void reachesNoneIfItStays() {
        BrakeCurve x = Lines.crawling();
        x.works(1, 1);
        x.train(20, 4, 1, false);
        Check.due("ahead of works", 130, x.reaches(0, 149, 600));
        Check.due("in them", -1, x.reaches(0, 150, 600));
    }

    private static void reachesNoneIfItCrashedOrWill() {
        BrakeCurve x = Lines.crashed();
        Check.due("where it stays", 0, x.reaches(1, 183, 600));
        Check.due("a metre beyond", -1, x.reaches(1, 184, 600));
        BrakeCurve y = Lines.aheadOfACrash();
        Check.due("where it will crash", 1, y.reaches(1, 183, 600));
        Check.due("a metre beyond", -1, y.reaches(1, 184, 600));
        Check.due("the one ahead of it will go no more", -1, y.reaches(0, 200, 600));
    }

    private static void reachesNoneWithoutRadio() {
        BrakeCurve x = Lines.crawling();
        x.section(0, 1, 0, false);
        x.train(20, 4, 1, false);
        Check.due("it gets no authority", -1, x.reaches(0, 20, 600));
        x.section(0, 1, 0, true);
        Check.due("it gets one", 1, x.reaches(0, 20, 600));
    }

    private static void reachesAsItStopsAndDwells() {
        BrakeCurve x = Lines.crawling();
        x.station(30, 60);
        x.station(22, 3);
        x.train(20, 4, 1, true);
        // at 22 in second 3, stopped in 4, and 3 more; at 30 in 15, stopped in 16, and 60 more
        Check.due("at the first one", 3, x.reaches(0, 22, 600));
        Check.due("beyond it", 8, x.reaches(0, 23, 600));
        Check.due("at the second one", 15, x.reaches(0, 30, 600));
        Check.due("beyond it", 77, x.reaches(0, 31, 600));
        Check.due("nobody stopped", 0, x.ofStation(0, 2) + x.ofStation(1, 2));
    }

    private static void reachesAsTheRearAheadIsKnown() {
        BrakeCurve x = Lines.rearAt(100);
        x.whole(0, false);
        x.train(20, 4, 1, false);
        Check.due("99 less 10", 70, x.reaches(1, 89, 600));
        Check.due("no farther", -1, x.reaches(1, 90, 600));
        x.whole(0, true);
        Check.due("unless it is known anew", 71, x.reaches(1, 90, 600));
    }

    // ---- Promise 18

    private static void closestIsNoneWithoutOneAhead() {
        BrakeCurve x = Lines.rearAt(2999);
        x.train(20, 4, 1, false);
        Check.due("the first one", -1, x.closest(0, 120));
        Check.due("2999 less 20, and less 1", 2978, x.closest(1, 1));
        x.pass(1);
        Check.due("the one ahead has left", -1, x.closest(1, 120));
    }

    private static void closestIsNoneIfItHasLeft() {
        BrakeCurve x = Lines.crashedAtTheEnd(51, 75);
        Check.due("there is one ahead", 0, x.ofTrain(1, 15));
        Check.due("it has left", -1, x.closest(1, 120));
    }

    private static void closestFrom1To120Seconds() {
        BrakeCurve x = Lines.rearAt(700);
        x.train(20, 4, 1, false);
        Check.due("1 second", 700 - 20 - 1, x.closest(1, 1));
        Check.due("2 seconds", 700 - 21 - 1, x.closest(1, 2));
        Check.due("120 seconds", 700 - 139 - 1, x.closest(1, 120));
    }

    private static void closestInTheseSecondsAlone() {
        BrakeCurve x = Lines.rearAt(21);
        x.train(20, 4, 1, false);
        x.pass(134);
        Check.due("the least ever", 2, x.ofTrain(1, 14));
        Check.due("the least in one second", 10, x.closest(1, 1));
        Check.due("the least ever is as before", 2, x.ofTrain(1, 14));
    }

    private static void closestToOneThatStandsStill() {
        BrakeCurve x = new BrakeCurve();
        x.train(20, 4, 3, false);
        x.pass(14);
        Check.due("the one ahead goes 40", 40, x.ofTrain(0, 2));
        Check.due("its rear", 313, x.ofTrain(0, 1));
        x.train(20, 4, 3, false);
        Check.due("it stands from now on: 313 less 22, and less 1", 290, x.closest(1, 1));
        Check.due("313 less 28, and less 1", 284, x.closest(1, 2));
        Check.due("it goes on", 40, x.ofTrain(0, 2));
    }

    /** Rear at 155, known as 154; head at 144. From the fourth second on it is the section of 154: up to 149. */
    private static void closestByTheReportFor3Seconds() {
        BrakeCurve x = Lines.rearAt(21);
        x.train(20, 4, 1, false);
        x.pass(134);
        Check.due("rear ahead", 155, x.ofTrain(0, 1));
        Check.due("head", 144, x.ofTrain(1, 0));
        Check.due("3 seconds", 10, x.closest(1, 3));
        Check.due("4 seconds", 9, x.closest(1, 4));
        Check.due("8 seconds", 5, x.closest(1, 8));
        Check.due("9 seconds: it stands at 149", 5, x.closest(1, 9));
        Check.due("120 seconds", 5, x.closest(1, 120));
    }

    private static void closestByAReportThatIsOldAlready() {
        BrakeCurve x = Lines.rearAt(21);
        x.train(20, 4, 1, false);
        x.pass(134);
        x.section(1, 1, 0, false);
        x.pass(2);
        Check.due("reported in second 155", 155, x.ofTrain(0, 10));
        Check.due("now", 157, x.many(0));
        Check.due("head", 144, x.ofTrain(1, 0));
        Check.due("3 seconds ago", 157 - 144 - 1, x.closest(1, 1));
        Check.due("4 seconds ago", 157 - 145 - 1, x.closest(1, 2));
    }

    private static void closestIs0() {
        BrakeCurve x = Lines.met(1);
        Check.due("there is no metre between", 0, x.closest(1, 1));
        x.pass(300);
        BrakeCurve y = Lines.met(0);
        Check.due("they have one in common", -1, y.closest(1, 120));
    }

    private static void closestIsBelow0() {
        BrakeCurve x = Lines.aheadOfACrash();
        Check.due("it would crash", -4, x.closest(1, 1));
        Check.due("it would stay so", -4, x.closest(1, 120));
        Check.due("it did not", 0, x.many(3));
    }

    private static void closestToOneThatCrashed() {
        BrakeCurve x = Lines.crashed();
        Check.due("as it crashed", -4, x.closest(1, 1));
        BrakeCurve y = Lines.crashedAtTheEnd(50, 72);
        Check.due("the one ahead crashed and left", -1, y.closest(1, 120));
    }

    // ---- Promise 19

    private static void lostFrom1To300Seconds() {
        BrakeCurve x = Lines.of(2, 0);
        x.train(20, 4, 1, false);
        x.pass(2);
        // by 2 each second, or by 1
        Check.due("1 second", 1, x.lost(0, 0, 1, 1));
        Check.due("2 seconds", 2, x.lost(0, 0, 1, 2));
        BrakeCurve y = Lines.of(2, 0);
        y.train(20, 4, 1, false);
        // 1 and 299 times 2, or 150 times 1 until its rear is at 150, and 150 times 2
        Check.due("300 seconds", 599 - 450, y.lost(0, 0, 1, 300));
    }

    private static void lostWithLimitsFrom1To40() {
        BrakeCurve x = Lines.of(20, 0);
        x.train(20, 4, 3, false);
        // 3, 6, 9 are 18; with limit 1 they are 3
        Check.due("limit 1", 15, x.lost(0, 0, 1, 3));
        Check.due("limit 40 is not reached", 0, x.lost(0, 0, 40, 3));
        // 3, 6, .. 18, 20, 20 are 103; with limit 40 the last ones are 21, 24
        Check.due("limit 40", -5, x.lost(0, 0, 40, 8));
    }

    private static void lostIsBelow0() {
        BrakeCurve x = Lines.crawling();
        x.train(20, 4, 1, false);
        // 1, 2, 3 rather than 1, 1, 1
        Check.due("more", -3, x.lost(0, 0, 3, 3));
        Check.due("as much in one second", 0, x.lost(0, 0, 3, 1));
    }

    private static void lostIsNothingWithTheLimitThatItHas() {
        BrakeCurve x = Lines.of(7, 0);
        x.train(20, 4, 3, false);
        for (int section = 0; section < 20; section++) {
            Check.due("as it is in " + section, 0, x.lost(0, section, 7, 300));
        }
    }

    private static void lostInTheSectionsAtTheEnds() {
        BrakeCurve x = Lines.rearAt(149);
        Check.due("rear at 149: the section 0 counts", 0, x.lost(0, 0, 40, 1));
        x.section(0, 40, 0, true);
        x.section(1, 40, 0, true);
        Check.due("rear at 149: by 2 rather than 1", 1, x.lost(0, 0, 1, 1));
        x.pass(1);
        Check.due("rear at 151: the section 0 counts no more", 0, x.lost(0, 0, 1, 1));
        BrakeCurve y = Lines.rearAt(2986);
        Check.due("head at 3005 is of the section 19: 2 rather than 1 each", -5, y.lost(0, 19, 2, 5));
        Check.due("as far as it leaves, at 3019", 0, y.lost(0, 19, 2, 300));
        Check.due("the section 18 counts no more", 0, y.lost(0, 18, 2, 300));
    }

    private static void lostIsNothingOfOneThatHasLeftOrCrashed() {
        Check.due("it has left", 0, Lines.rearAt(3000).lost(0, 19, 40, 300));
        Check.due("it crashed", 0, Lines.crashed().lost(1, 1, 1, 300));
        BrakeCurve x = Lines.aheadOfACrash();
        // with limit 1 it brakes as it does without any way
        Check.due("it will crash", 0, x.lost(1, 1, 1, 300));
        Check.due("the one that it will run into would not go either", 0, x.lost(0, 1, 1, 300));
    }

    /** Rear at 155 in the section 1, where the limit is 1; head at 144 in the section 0, where it is 40. */
    private static void lostByTheOneAhead() {
        BrakeCurve x = Lines.rearAt(21);
        x.train(20, 4, 1, false);
        x.pass(134);
        x.section(0, 40, 0, true);
        Check.due("rear ahead", 155, x.ofTrain(0, 1));
        Check.due("head", 144, x.ofTrain(1, 0));
        // with limit 1 the head goes to 145, 146, 147, 148; with limit 2 the rear is known at 155, 157, 159, 161,
        // so that the ways are 1, 2, 3 and 3, the speeds 1, 1, 2 and 2
        int[] lost = {0, 0, -1, -2};
        for (int seconds = 1; seconds <= 4; seconds++) {
            Check.due("it gives way sooner, " + seconds, lost[seconds - 1], x.lost(1, 1, 2, seconds));
        }
        x.section(1, 2, 0, true);
        for (int seconds = 1; seconds <= 4; seconds++) {
            Check.due("it holds it up, " + seconds, -lost[seconds - 1], x.lost(1, 1, 1, seconds));
        }
    }

    // ---- Promise 20

    private static void worksInIs0Now() {
        BrakeCurve x = Lines.rearAt(150);
        Check.due("its rear is at 150", 0, x.worksIn(0, 0, 1));
        Check.due("its rear is at 150", 0, x.worksIn(0, 0, 300));
        Check.due("they can begin", 1, x.works(0, 0));
    }

    private static void worksInIs0WithoutTrains() {
        BrakeCurve x = new BrakeCurve();
        Check.due("everywhere", 0, x.worksIn(0, 19, 1));
        Check.due("it has left", 0, Lines.rearAt(3000).worksIn(0, 19, 1));
    }

    private static void worksInWhetherOrNotThereAre3() {
        BrakeCurve x = Lines.rearAt(150);
        x.works(0, 0);
        x.works(0, 0);
        x.works(0, 0);
        Check.noState("there are 3", x, () -> x.works(0, 0));
        Check.due("whether or not there are 3", 0, x.worksIn(0, 0, 1));
        Check.due("whether or not there are 3", 150, x.worksIn(1, 1, 300));
        Check.due("three as before", 3, x.many(5));
    }

    private static void worksInTheLastOfTheSeconds() {
        BrakeCurve x = Lines.rearAt(143);
        Check.due("in the last second", 7, x.worksIn(0, 0, 7));
        Check.due("not within one less", -1, x.worksIn(0, 0, 6));
        Check.due("first, though there are more", 7, x.worksIn(0, 0, 8));
        x.pass(7);
        Check.due("so it is", 1, x.works(0, 0));
    }

    private static void worksInFrom1To300Seconds() {
        BrakeCurve x = Lines.rearAt(149);
        Check.due("1 second", 1, x.worksIn(0, 0, 1));
        BrakeCurve y = Lines.crawling();
        y.train(20, 4, 1, false);
        Check.due("300 seconds", 300, y.worksIn(0, 1, 300));
        BrakeCurve z = Lines.crawling();
        z.station(25, 0);
        z.train(20, 4, 1, true);
        Check.due("not within 300 seconds, as it stops in one", -1, z.worksIn(0, 1, 300));
        z.pass(1);
        Check.due("within 300 seconds", 300, z.worksIn(0, 1, 300));
    }

    private static void worksInTheSectionsAtTheEnds() {
        BrakeCurve x = Lines.rearAt(2990);
        Check.due("the section 19", 10, x.worksIn(19, 19, 300));
        Check.due("the section 0", 0, x.worksIn(0, 0, 300));
        Check.due("all sections", 10, x.worksIn(0, 19, 300));
        Check.due("all but the section 19", 0, x.worksIn(0, 18, 300));
    }

    private static void worksInAsATrainLeaves() {
        BrakeCurve x = Lines.rearAt(2999);
        Check.due("it leaves in the next second", 1, x.worksIn(19, 19, 1));
        Check.due("it has not left", 0, x.ofTrain(0, 7));
    }

    private static void worksInNoneByAnAuthority() {
        BrakeCurve x = Lines.rearAt(100);
        Check.due("within its authority, and it would not be there by then", -1, x.worksIn(10, 10, 300));
        BrakeCurve y = Lines.crawling();
        y.works(10, 10);
        y.train(20, 4, 1, false);
        y.pass(1);
        Check.due("its authority ends at 1499", 0, y.worksIn(10, 10, 1));
        Check.due("and is within the section 9", -1, y.worksIn(9, 9, 300));
    }

    private static void worksInNoneByOneThatCrashed() {
        BrakeCurve x = Lines.crashed();
        Check.due("where it stays", -1, x.worksIn(1, 1, 300));
        Check.due("within its authority", -1, x.worksIn(15, 15, 300));
        Check.due("behind both", 0, x.worksIn(0, 0, 300));
    }

    // ---- Promise 21

    /** The document's row of numbers, from what the object itself answers. */
    private static List<Integer> row(BrakeCurve x) {
        List<Integer> row = new ArrayList<>();
        for (int what = 0; what <= 9; what++) {
            row.add(x.many(what));
        }
        for (int section = 0; section < 20; section++) {
            for (int what = 0; what <= 4; what++) {
                row.add(x.ofSection(section, what));
            }
        }
        for (int train = 0; train < x.many(1); train++) {
            for (int what = 0; what <= 15; what++) {
                row.add(x.ofTrain(train, what));
            }
            row.addAll(List.of(x.stops(train, 20), x.may(train), x.why(train), x.reaches(train, 2000, 90),
                    x.closest(train, 30)));
        }
        for (int station = 0; station < x.many(4); station++) {
            for (int what = 0; what <= 2; what++) {
                row.add(x.ofStation(station, what));
            }
        }
        row.add(x.worksIn(5, 6, 60));
        return row;
    }

    /** As large as it grows; its last 64 bits are what is left of it where it wraps around. */
    private static BigInteger whole(List<Integer> row) {
        BigInteger d = BigInteger.valueOf(4810);
        for (int v : row) {
            d = d.multiply(BigInteger.valueOf(31)).add(BigInteger.valueOf(v));
        }
        return d;
    }

    private static void dueDigest(String what, int numbers, BrakeCurve x) {
        List<Integer> row = row(x);
        Check.due(what + ": numbers", numbers, row.size());
        Check.due(what, whole(row).longValue(), x.digest());
    }

    private static void digestOfANewObject() {
        // as ../shared/tests tells it
        Check.due("a new object", 3915586957547882422L, new BrakeCurve().digest());
        dueDigest("a new object", 10 + 100 + 1, new BrakeCurve());
    }

    private static void digestWrapsAround() {
        int below = 0;
        for (int seconds = 1; seconds <= 20; seconds++) {
            BrakeCurve x = Lines.rearAt(seconds);
            BigInteger whole = whole(row(x));
            Check.isTrue("it does not fit into 64 bits", whole.bitLength() > 63);
            Check.due("it wraps around", whole.longValue(), x.digest());
            below += x.digest() < 0 ? 1 : 0;
        }
        Check.isTrue("to below 0, too", below > 0);
    }

    private static void digestOfAsManyAsThereMayBe() {
        BrakeCurve x = Lines.full();
        Check.due("stations", 4, x.many(4));
        Check.due("trains", 4, x.many(1));
        Check.due("works", 3, x.many(5));
        dueDigest("all that there may be", 10 + 100 + 4 * 21 + 4 * 3 + 1, x);
    }

    private static void digestOfThoseThatLeftAndCrashed() {
        dueDigest("both crashed and left", 10 + 100 + 2 * 21 + 1, Lines.crashedAtTheEnd(53, 75));
        dueDigest("train 0 left", 10 + 100 + 2 * 21 + 1, Lines.crashedAtTheEnd(50, 72));
        dueDigest("train 1 left", 10 + 100 + 2 * 21 + 1, Lines.crashedAtTheEnd(51, 75));
        dueDigest("both crashed", 10 + 100 + 2 * 21 + 3 + 1, Lines.crashed());
    }

    private static void digestAsksReachesOf2000And90() {
        Check.due("it reaches 2000 in 90 seconds", 90, Lines.rearAt(1891).reaches(0, 2000, 90));
        dueDigest("in 90 seconds", 10 + 100 + 21 + 1, Lines.rearAt(1891));
        Check.due("it does not", -1, Lines.rearAt(1890).reaches(0, 2000, 90));
        dueDigest("not in 90 seconds", 10 + 100 + 21 + 1, Lines.rearAt(1890));
    }

    private static void digestAsksWorksInOf5And6And60() {
        Check.due("its rear leaves the section 6 in 60 seconds", 60, Lines.rearAt(990).worksIn(5, 6, 60));
        dueDigest("in 60 seconds", 10 + 100 + 21 + 1, Lines.rearAt(990));
        Check.due("it does not", -1, Lines.rearAt(989).worksIn(5, 6, 60));
        dueDigest("not in 60 seconds", 10 + 100 + 21 + 1, Lines.rearAt(989));
        Check.due("it is in the section 7", 0, Lines.rearAt(1050).worksIn(5, 6, 60));
        dueDigest("behind it", 10 + 100 + 21 + 1, Lines.rearAt(1050));
        BrakeCurve x = Lines.crawling();
        x.works(5, 5);
        x.train(20, 4, 1, false);
        Lines.pass(x, 740);
        Check.due("it stands in the section 4", 749, x.ofTrain(0, 0));
        Check.due("ahead of it", 0, x.worksIn(5, 6, 60));
        dueDigest("ahead of it", 10 + 100 + 21 + 1, x);
        x.end(0);
        x.works(6, 6);
        x.pass(60);
        Check.due("it is in the section 5", -1, x.worksIn(5, 6, 60));
        dueDigest("under it", 10 + 100 + 21 + 1, x);
    }

    // ---- All of them

    private static void ask(BrakeCurve x) {
        for (int train = 0; train < x.many(1); train++) {
            x.reaches(train, 2999, 600);
            x.closest(train, 120);
            x.lost(train, 0, 1, 300);
            x.lost(train, 19, 40, 300);
        }
        x.worksIn(0, 0, 300);
        x.worksIn(0, 19, 300);
        x.digest();
        x.meanSpeed();
    }

    private static BrakeCurve[] lines() {
        return new BrakeCurve[] {Lines.full(), Lines.crashed(), Lines.aheadOfACrash(), Lines.rearAt(2999),
            new BrakeCurve()};
    }

    private static void nothingIsChanged() {
        BrakeCurve[] asked = lines();
        BrakeCurve[] others = lines();
        for (int i = 0; i < asked.length; i++) {
            for (int times = 0; times < 12; times++) {
                ask(asked[i]);
                Check.due("as if it had not been asked", others[i].digest(), asked[i].digest());
                Check.due("as many leave", others[i].pass(7), asked[i].pass(7));
            }
        }
    }

    /** The dearest calls, as many as there may be, and the greatest numbers that they come to. */
    private static void as512CallsAreMade() {
        BrakeCurve x = Lines.overrun(false);
        int overrun = x.ofTrain(0, 12);
        for (int call = 0; call < 480; call++) {
            x.pass(300);
        }
        Check.due("now", 10 + 480 * 300, x.many(0));
        Check.due("overrun in each second", overrun + 480 * 300, x.many(7));
        Check.due("it stands", 203, x.ofTrain(0, 0));
        BrakeCurve y = Lines.full();
        long first = y.digest();
        for (int call = 0; call < 120; call++) {
            y.lost(3, 0, 1, 300);
            y.reaches(3, 2999, 600);
            y.closest(3, 120);
            Check.due("the same digest each time", first, y.digest());
        }
    }
}
