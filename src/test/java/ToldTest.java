/** Promises 1 to 8: what is told. The numbers are worked out from the document by hand. */
public final class ToldTest {
    private static final int MIN = Integer.MIN_VALUE;
    private static final int MAX = Integer.MAX_VALUE;

    public static void main(String[] args) {
        promise1NewObject();
        promise2Section();
        promise2SectionRefused();
        promise3Station();
        promise3StationRefused();
        promise4Train();
        promise4TrainRefused();
        promise4TrainNeedsRoom();
        promise5Whole();
        promise6Works();
        promise6WorksHindered();
        promise6WorksAtTheEdgeOfAnAuthority();
        promise6WorksRefused();
        promise7End();
        promise8Pass();
        Check.end("ToldTest");
    }

    private static void promise1NewObject() {
        BrakeCurve x = new BrakeCurve();
        for (int what = 0; what <= 9; what++) {
            Check.due("1: many(" + what + ")", 0, x.many(what));
        }
        for (int section = 0; section < 20; section++) {
            Check.due("1: limit", 40, x.ofSection(section, 0));
            Check.due("1: grade", 0, x.ofSection(section, 1));
            Check.due("1: radio", 1, x.ofSection(section, 2));
            Check.due("1: trains", 0, x.ofSection(section, 3));
            Check.due("1: works", 0, x.ofSection(section, 4));
        }
        Check.due("1: meanSpeed", (Object) 0.0, (Object) x.meanSpeed());
        Check.noIndex("1: no train", x, () -> x.ofTrain(0, 0));
        Check.noIndex("1: no station", x, () -> x.ofStation(0, 0));
        Check.noIndex("1: no works", x, () -> x.end(0));
        x.section(3, 7, 1, false);
        x.train(20, 1, 1, false);
        BrakeCurve y = new BrakeCurve();
        Check.due("1: another object has its own line", 40, y.ofSection(3, 0));
        Check.due("1: and its own trains", 0, y.many(1));
    }

    private static void promise2Section() {
        BrakeCurve x = new BrakeCurve();
        Check.due("2: limit before", 40, x.section(0, 1, -2, false));
        Check.due("2: limit before, again", 1, x.section(0, 40, 2, true));
        Check.due("2: the limit told", 40, x.section(0, 7, 1, false));
        Check.due("2: limit", 7, x.ofSection(0, 0));
        Check.due("2: grade", 1, x.ofSection(0, 1));
        Check.due("2: radio", 0, x.ofSection(0, 2));
        Check.due("2: the next one stays", 40, x.ofSection(1, 0));
        Check.due("2: the last one", 40, x.section(19, 12, -1, true));
        Check.due("2: its limit", 12, x.ofSection(19, 0));
        Check.due("2: its grade", -1, x.ofSection(19, 1));
        Check.due("2: its radio", 1, x.ofSection(19, 2));
    }

    private static void promise2SectionRefused() {
        BrakeCurve x = new BrakeCurve();
        for (int section : new int[] {-1, 20, MIN, MAX}) {
            Check.noIndex("2: section " + section, x, () -> x.section(section, 5, 1, false));
            Check.noIndex("2: first of all, section " + section, x, () -> x.section(section, 0, 3, false));
        }
        for (int limit : new int[] {0, -1, 41, MIN, MAX}) {
            Check.noArgument("2: limit " + limit, x, () -> x.section(5, limit, 1, false));
        }
        for (int grade : new int[] {-3, 3, MIN, MAX}) {
            Check.noArgument("2: grade " + grade, x, () -> x.section(5, 5, grade, false));
        }
    }

    private static void promise3Station() {
        BrakeCurve x = new BrakeCurve();
        Check.due("3: first number", 0, x.station(2999, 60));
        Check.due("3: second number", 1, x.station(0, 0));
        Check.due("3: third number", 2, x.station(1500, 7));
        Check.due("3: fourth number", 3, x.station(1501, 7));
        Check.due("3: how many", 4, x.many(4));
        Check.due("3: metre", 2999, x.ofStation(0, 0));
        Check.due("3: dwell", 60, x.ofStation(0, 1));
        Check.due("3: metre of the second", 0, x.ofStation(1, 0));
        Check.due("3: dwell of the second", 0, x.ofStation(1, 1));
        Check.due("3: metre of the third", 1500, x.ofStation(2, 0));
        Check.due("3: dwell of the third", 7, x.ofStation(2, 1));
        Check.due("3: nobody stopped", 0, x.ofStation(2, 2));
        Check.noState("3: a fifth one", x, () -> x.station(100, 5));
        Check.noArgument("3: a fifth one at a wrong metre", x, () -> x.station(3000, 5));
        Check.noArgument("3: a fifth one where there is one", x, () -> x.station(1500, 5));
        Check.noArgument("3: a fifth one with a wrong dwell", x, () -> x.station(100, 61));
    }

    private static void promise3StationRefused() {
        BrakeCurve x = new BrakeCurve();
        x.station(600, 4);
        for (int metre : new int[] {-1, 3000, MIN, MAX, 600}) {
            Check.noArgument("3: metre " + metre, x, () -> x.station(metre, 5));
        }
        for (int dwell : new int[] {-1, 61, MIN, MAX}) {
            Check.noArgument("3: dwell " + dwell, x, () -> x.station(700, dwell));
        }
        x.train(20, 4, 3, false);
        Check.noState("3: a train is there", x, () -> x.station(700, 5));
        Check.noArgument("3: a train is there, and a station", x, () -> x.station(600, 5));
        x.pass(300);
        Check.due("3: the train has left", 1, x.many(2));
        Check.due("3: a station again", 1, x.station(700, 5));
    }

    private static void promise4Train() {
        BrakeCurve x = new BrakeCurve();
        x.station(30, 5);
        x.station(18, 5);
        x.station(19, 5);
        x.pass(7);
        Check.due("4: first number", 0, x.train(20, 1, 1, true));
        int[] told = {19, 0, 0, 19, 1, 0, 2, 0, 19, 0, 7, 0, 0, 0, -1, -1};
        for (int what = 0; what < told.length; what++) {
            Check.due("4: ofTrain(0, " + what + ") as told", told[what], x.ofTrain(0, what));
        }
        BrakeCurve y = new BrakeCurve();
        y.station(18, 5);
        y.station(1000, 5);
        y.train(20, 1, 1, false);
        Check.due("4: a train that stops nowhere", -1, y.ofTrain(0, 6));
        BrakeCurve z = new BrakeCurve();
        z.station(198, 5);
        z.train(200, 4, 3, true);
        Check.due("4: the station is behind its head", -1, z.ofTrain(0, 6));
        Check.due("4: its head", 199, z.ofTrain(0, 0));
    }

    private static void promise4TrainRefused() {
        BrakeCurve x = new BrakeCurve();
        for (int length : new int[] {19, 201, 0, MIN, MAX}) {
            Check.noArgument("4: length " + length, x, () -> x.train(length, 1, 1, true));
        }
        for (int brake : new int[] {0, 5, MIN, MAX}) {
            Check.noArgument("4: brake " + brake, x, () -> x.train(20, brake, 1, true));
        }
        for (int pull : new int[] {0, 4, MIN, MAX}) {
            Check.noArgument("4: pull " + pull, x, () -> x.train(20, 1, pull, true));
        }
        for (int number = 0; number < 4; number++) {
            Check.due("4: number", number, x.train(20, 4, 3, false));
            Check.due("4: the one ahead", number - 1, x.ofTrain(number, 15));
            Check.due("4: nothing left yet", 0, x.pass(20));
        }
        Check.noState("4: a fifth one", x, () -> x.train(20, 4, 3, false));
        Check.noArgument("4: a fifth one that is too long", x, () -> x.train(201, 4, 3, false));
        x.pass(300);
        Check.due("4: all have left", 4, x.many(2));
        Check.noState("4: a fifth one as all have left", x, () -> x.train(20, 4, 3, false));
    }

    private static void promise4TrainNeedsRoom() {
        BrakeCurve x = new BrakeCurve();
        x.train(20, 4, 1, false);
        Check.noState("4: at once behind another", x, () -> x.train(20, 1, 1, false));
        x.pass(6);
        Check.due("4: the rear", 21, x.ofTrain(0, 1));
        Check.noState("4: rear equal to the length", x, () -> x.train(21, 1, 1, false));
        Check.noState("4: rear below the length", x, () -> x.train(22, 1, 1, false));
        Check.noArgument("4: too long comes first", x, () -> x.train(201, 1, 1, false));
        Check.due("4: rear one above the length", 1, x.train(20, 1, 1, false));
        BrakeCurve y = new BrakeCurve();
        y.train(20, 4, 3, false);
        y.pass(200);
        Check.due("4: the one before has left", 1, y.ofTrain(0, 7));
        Check.due("4: so that there is room for any length", 1, y.train(200, 1, 1, false));
        Check.due("4: and none ahead", -1, y.ofTrain(1, 15));
    }

    private static void promise5Whole() {
        BrakeCurve x = new BrakeCurve();
        x.train(20, 4, 1, false);
        Check.due("5: it was whole", (Object) true, (Object) x.whole(0, false));
        Check.due("5: it was not", (Object) false, (Object) x.whole(0, false));
        Check.due("5: told so", 0, x.ofTrain(0, 4));
        x.pass(5);
        Check.due("5: head", 34, x.ofTrain(0, 0));
        Check.due("5: known head", 29, x.ofTrain(0, 8));
        Check.due("5: known rear stays", 0, x.ofTrain(0, 9));
        Check.due("5: but it reports", 5, x.ofTrain(0, 10));
        Check.due("5: it was not, again", (Object) false, (Object) x.whole(0, true));
        Check.due("5: told so, again", 1, x.ofTrain(0, 4));
        Check.due("5: known rear stays until it reports", 0, x.ofTrain(0, 9));
        x.pass(1);
        Check.due("5: known rear", 15, x.ofTrain(0, 9));
        for (int train : new int[] {-1, 1, MIN, MAX}) {
            Check.noIndex("5: train " + train, x, () -> x.whole(train, false));
        }
        x.pass(300);
        Check.due("5: also one that has left", (Object) true, (Object) x.whole(0, false));
        Check.due("5: is not whole then", 0, x.ofTrain(0, 4));
    }

    private static void promise6Works() {
        BrakeCurve x = new BrakeCurve();
        Check.due("6: one", 1, x.works(0, 19));
        Check.due("6: two, on the same sections", 2, x.works(0, 0));
        Check.due("6: three", 3, x.works(19, 19));
        Check.due("6: how many", 3, x.many(5));
        Check.due("6: works there", 1, x.ofSection(10, 4));
        Check.noState("6: a fourth one", x, () -> x.works(5, 5));
        Check.noArgument("6: a fourth one turned round", x, () -> x.works(5, 4));
        Check.noIndex("6: a fourth one beyond the line", x, () -> x.works(5, 20));
    }

    private static void promise6WorksHindered() {
        BrakeCurve x = new BrakeCurve();
        x.train(160, 4, 3, false);
        Check.due("6: head at 159 is in section 1", -2, x.works(1, 1));
        Check.due("6: rear at 0 is in section 0", -2, x.works(0, 0));
        Check.due("6: its authority is its head", 1, x.works(2, 2));
        Check.due("6: works end", 0, x.end(0));
        x.pass(1);
        Check.due("6: its authority is the end of the line", -3, x.works(2, 2));
        Check.due("6: and at the last section, too", -3, x.works(19, 19));
        Check.due("6: a train there comes first", -2, x.works(1, 2));
        Check.due("6: nothing is done", 0, x.many(5));
        Check.due("6: nowhere", 0, x.ofSection(2, 4));
        x.pass(60);
        Check.due("6: it has left", 0, x.many(2));
        x.pass(60);
        Check.due("6: it has left now", 1, x.many(2));
        Check.due("6: whose authority and place count no more", 1, x.works(0, 19));
        BrakeCurve y = new BrakeCurve();
        y.train(20, 4, 3, false);
        y.pass(15);
        // 3, 6, .. 39 metres in 13 seconds are 273, and two times 40
        Check.due("6: a rear beyond the sections", 353, y.ofTrain(0, 1));
        Check.due("6: behind a train all is free", 1, y.works(0, 1));
    }

    /** A train that crawls at a metre a second gets its authority from the one ahead, and then has no radio. */
    private static void promise6WorksAtTheEdgeOfAnAuthority() {
        for (int more = 0; more <= 1; more++) {
            BrakeCurve x = new BrakeCurve();
            x.section(0, 1, 0, true);
            x.section(1, 1, 0, true);
            x.train(20, 4, 1, false);
            x.pass(159 + more);
            x.train(20, 4, 1, false);
            x.pass(1);
            Check.due("6: authority by the rear at 159 or 160", 149 + more, x.ofTrain(1, 3));
            x.section(0, 1, 0, false);
            x.section(1, 40, 0, true);
            x.pass(20);
            Check.isTrue("6: the one ahead is beyond section 1", x.ofTrain(0, 1) >= 300);
            Check.due("6: authority stays", 149 + more, x.ofTrain(1, 3));
            Check.due("6: authority at the first metre less 1, or at it", more == 0 ? 1 : -3, x.works(1, 1));
        }
    }

    private static void promise6WorksRefused() {
        BrakeCurve x = new BrakeCurve();
        for (int section : new int[] {-1, 20, MIN, MAX}) {
            Check.noIndex("6: first " + section, x, () -> x.works(section, 5));
            Check.noIndex("6: last " + section, x, () -> x.works(5, section));
        }
        Check.noArgument("6: turned round", x, () -> x.works(5, 4));
        Check.noArgument("6: turned round at the ends", x, () -> x.works(19, 0));
    }

    private static void promise7End() {
        BrakeCurve x = new BrakeCurve();
        x.works(5, 5);
        x.works(10, 12);
        x.works(15, 15);
        Check.noIndex("7: -1", x, () -> x.end(-1));
        Check.noIndex("7: 3", x, () -> x.end(3));
        Check.due("7: two left", 2, x.end(1));
        Check.due("7: ended", 0, x.ofSection(11, 4));
        Check.due("7: not ended", 1, x.ofSection(5, 4));
        Check.due("7: not ended either", 1, x.ofSection(15, 4));
        Check.noIndex("7: 2 of two", x, () -> x.end(2));
        x.works(1, 1);
        Check.due("7: the first of those that there are", 2, x.end(0));
        Check.due("7: it was at 5", 0, x.ofSection(5, 4));
        Check.due("7: the next first one", 1, x.end(0));
        Check.due("7: it was at 15", 0, x.ofSection(15, 4));
        Check.due("7: one is left", 1, x.ofSection(1, 4));
        Check.due("7: none is left", 0, x.end(0));
        Check.due("7: nowhere", 0, x.ofSection(1, 4));
        Check.noIndex("7: 0 of none", x, () -> x.end(0));
        Check.noIndex("7: MIN", x, () -> x.end(MIN));
        Check.noIndex("7: MAX", x, () -> x.end(MAX));
    }

    private static void promise8Pass() {
        BrakeCurve x = new BrakeCurve();
        for (int seconds : new int[] {0, 301, -1, MIN, MAX}) {
            Check.noArgument("8: seconds " + seconds, x, () -> x.pass(seconds));
        }
        Check.due("8: one", 0, x.pass(1));
        Check.due("8: now", 1, x.many(0));
        Check.due("8: 300", 0, x.pass(300));
        Check.due("8: now, again", 301, x.many(0));
        for (int section = 0; section < 20; section++) {
            x.section(section, 1, 0, true);
        }
        x.train(20, 4, 1, false);
        for (int hundreds = 0; hundreds < 9; hundreds++) {
            Check.due("8: not yet", 0, x.pass(300));
        }
        Check.due("8: nor with its rear at 2999", 0, x.pass(299));
        Check.due("8: its rear", 2999, x.ofTrain(0, 1));
        Check.due("8: it is there", 0, x.ofTrain(0, 7));
        Check.due("8: it leaves", 1, x.pass(1));
        Check.due("8: its rear, again", 3000, x.ofTrain(0, 1));
        Check.due("8: it has left", 1, x.ofTrain(0, 7));
        Check.due("8: once", 0, x.pass(1));
        BrakeCurve y = new BrakeCurve();
        y.train(20, 4, 3, false);
        y.pass(20);
        y.train(20, 4, 3, false);
        Check.due("8: both leave in them", 2, y.pass(300));
    }
}
