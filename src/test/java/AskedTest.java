/** Promises 9 to 16: what one asks. The numbers are worked out from the document by hand. */
public final class AskedTest {
    private static final int MIN = Integer.MIN_VALUE;
    private static final int MAX = Integer.MAX_VALUE;

    public static void main(String[] args) {
        promise9OfSection();
        promise9OfSectionAtTheEndOfTheLine();
        promise9OfSectionRefused();
        promise10OfTrain();
        promise10OfTrainRefused();
        promise11Stops();
        promise11StopsRefused();
        promise12May();
        promise12MayByLimits();
        promise13Why();
        promise13WhyOfSeveral();
        promise13WhyByWorksBehindTheOneAhead();
        promise14OfStation();
        promise15Many();
        promise16MeanSpeed();
        askingChangesNothing();
        Check.end("AskedTest");
    }

    private static BrakeCurve line(int limit) {
        BrakeCurve x = new BrakeCurve();
        for (int section = 0; section < 20; section++) {
            x.section(section, limit, 0, true);
        }
        return x;
    }

    private static void passHundreds(BrakeCurve x, int hundreds) {
        for (int i = 0; i < hundreds; i++) {
            x.pass(100);
        }
    }

    private static void promise9OfSection() {
        BrakeCurve x = line(1);
        x.works(4, 6);
        x.works(6, 7);
        for (int section = 0; section < 20; section++) {
            Check.due("9: works on " + section, section >= 4 && section <= 7 ? 1 : 0, x.ofSection(section, 4));
        }
        x.train(20, 4, 1, false);
        Check.due("9: as told", 1, x.ofSection(0, 3));
        x.pass(130);
        Check.due("9: head at 149", 1, x.ofSection(0, 3));
        Check.due("9: head at 149", 0, x.ofSection(1, 3));
        x.train(20, 4, 1, false);
        x.pass(1);
        Check.due("9: head at 150, and another one", 2, x.ofSection(0, 3));
        Check.due("9: head at 150", 1, x.ofSection(1, 3));
        x.pass(18);
        Check.due("9: rear at 149", 2, x.ofSection(0, 3));
        x.pass(1);
        Check.due("9: rear at 150", 1, x.ofSection(0, 3));
        Check.due("9: rear at 150", 1, x.ofSection(1, 3));
        BrakeCurve y = new BrakeCurve();
        y.train(200, 4, 3, false);
        y.pass(11);
        Check.due("9: from 198 to 397", 198, y.ofTrain(0, 1));
        Check.due("9: no metre there", 0, y.ofSection(0, 3));
        Check.due("9: its rear", 1, y.ofSection(1, 3));
        Check.due("9: its head", 1, y.ofSection(2, 3));
        Check.due("9: no metre there yet", 0, y.ofSection(3, 3));
        y.pass(1);
        // 234 to 433
        Check.due("9: still in two", 2, y.ofSection(1, 3) + y.ofSection(2, 3));
    }

    private static void promise9OfSectionAtTheEndOfTheLine() {
        BrakeCurve x = line(1);
        x.train(20, 4, 1, false);
        passHundreds(x, 29);
        x.pass(99);
        Check.due("9: its rear at 2999", 2999, x.ofTrain(0, 1));
        Check.due("9: its metres above 2999", 1, x.ofSection(19, 3));
        Check.due("9: not before", 0, x.ofSection(18, 3));
        Check.due("9: it is there", -2, x.works(19, 19));
        x.pass(1);
        Check.due("9: it has left", 0, x.ofSection(19, 3));
        Check.due("9: works can begin", 1, x.works(19, 19));
    }

    private static void promise9OfSectionRefused() {
        BrakeCurve x = new BrakeCurve();
        for (int section : new int[] {-1, 20, MIN, MAX}) {
            Check.noIndex("9: section " + section, x, () -> x.ofSection(section, 0));
            Check.noIndex("9: first of all, section " + section, x, () -> x.ofSection(section, 5));
        }
        for (int what : new int[] {-1, 5, MIN, MAX}) {
            Check.noArgument("9: what " + what, x, () -> x.ofSection(19, what));
        }
    }

    /** What SecondTest does not tell: all numbers of one train, each one another. */
    private static void promise10OfTrain() {
        BrakeCurve x = line(1);
        x.station(250, 6);
        x.station(30, 50);
        x.train(20, 4, 1, false);
        x.pass(100);
        x.train(21, 4, 1, true);
        x.pass(13);
        // it went from 20 to 30 in 10 seconds, stopped in the next one, and stood 2 more
        int[] due = {30, 10, 0, 102, 1, 48, 0, 0, 30, 10, 113, 1, 0, 0, 79, 0};
        for (int what = 0; what < due.length; what++) {
            Check.due("10: ofTrain(1, " + what + ")", due[what], x.ofTrain(1, what));
        }
        Check.due("10: a gap grows while it stands", 82, x.ofTrain(0, 1) - x.ofTrain(1, 0) - 1);
        x.whole(1, false);
        Check.due("10: not whole", 0, x.ofTrain(1, 4));
        Check.due("10: none ahead", -1, x.ofTrain(0, 15));
        Check.due("10: no gap", -1, x.ofTrain(0, 14));
        Check.due("10: no station", -1, x.ofTrain(0, 6));
    }

    private static void promise10OfTrainRefused() {
        BrakeCurve x = new BrakeCurve();
        Check.noIndex("10: no train at all", x, () -> x.ofTrain(0, 0));
        x.train(20, 1, 1, false);
        for (int train : new int[] {-1, 1, 4, MIN, MAX}) {
            Check.noIndex("10: train " + train, x, () -> x.ofTrain(train, 0));
            Check.noIndex("10: first of all, train " + train, x, () -> x.ofTrain(train, 16));
        }
        for (int what : new int[] {-1, 16, MIN, MAX}) {
            Check.noArgument("10: what " + what, x, () -> x.ofTrain(0, what));
        }
    }

    private static void promise11Stops() {
        BrakeCurve x = new BrakeCurve();
        x.train(20, 2, 1, false);
        int[] hold2 = {0, 1, 3, 5, 7, 10, 14, 18, 22};
        for (int speed = 0; speed < hold2.length; speed++) {
            Check.due("11: hold 2, from " + speed, hold2[speed], x.stops(0, speed));
        }
        Check.due("11: hold 2, from 40", 40 + 390, x.stops(0, 40));
        x.section(0, 40, 1, true);
        Check.due("11: hold 3, from 12", 12 + 22, x.stops(0, 12));
        Check.due("11: hold 3, from 5: 20 / 6 rounded up", 5 + 4, x.stops(0, 5));
        x.section(0, 40, -2, true);
        Check.due("11: hold 1 at least", 40 + 780, x.stops(0, 40));
        x.section(0, 40, 0, true);
        x.section(19, 40, 2, true);
        x.pass(200);
        Check.due("11: beyond the end it is of the section 19", 1, x.ofTrain(0, 7));
        Check.due("11: hold 4, from 40", 40 + 195, x.stops(0, 40));
    }

    private static void promise11StopsRefused() {
        BrakeCurve x = new BrakeCurve();
        x.train(20, 1, 1, false);
        for (int train : new int[] {-1, 1, MIN, MAX}) {
            Check.noIndex("11: train " + train, x, () -> x.stops(train, 0));
            Check.noIndex("11: first of all, train " + train, x, () -> x.stops(train, 41));
        }
        for (int speed : new int[] {-1, 41, MIN, MAX}) {
            Check.noArgument("11: speed " + speed, x, () -> x.stops(0, speed));
        }
    }

    private static void promise12May() {
        BrakeCurve x = new BrakeCurve();
        Check.noIndex("12: no train at all", x, () -> x.may(0));
        x.station(30, 2);
        x.works(1, 1);
        x.train(20, 4, 1, true);
        Check.due("12: its authority is its head", 0, x.may(0));
        int[] due = {6, 5, 3, 1, 1, 0};
        for (int speed : due) {
            x.pass(1);
            Check.due("12: by the station, at " + x.ofTrain(0, 0), speed, x.may(0));
        }
        x.pass(1);
        Check.due("12: it has stopped, and may go as far as 149: 119 metres, hold 4", 27, x.may(0));
        Check.due("12: stop from that", 27 + 88, x.stops(0, 27));
        Check.due("12: stop from more", 28 + 95, x.stops(0, 28));
        for (int train : new int[] {-1, 1, MIN, MAX}) {
            Check.noIndex("12: train " + train, x, () -> x.may(train));
        }
        BrakeCurve y = new BrakeCurve();
        y.train(20, 4, 3, false);
        y.pass(100);
        y.section(19, 40, 0, true);
        Check.due("12: it has left", 0, y.may(0));
    }

    private static void promise12MayByLimits() {
        BrakeCurve x = new BrakeCurve();
        x.train(200, 4, 3, false);
        x.pass(1);
        Check.due("12: no limit below 40", 40, x.may(0));
        x.section(1, 7, 0, true);
        Check.due("12: the limit of its head", 7, x.may(0));
        x.section(0, 5, 0, true);
        Check.due("12: the limit of its rear", 5, x.may(0));
        x.section(2, 1, 0, true);
        Check.due("12: not that of the section ahead", 5, x.may(0));
        x.section(0, 40, 0, true);
        Check.due("12: the least", 7, x.may(0));
        BrakeCurve y = new BrakeCurve();
        y.train(170, 4, 3, false);
        y.pass(9);
        Check.due("12: head in the section 2", 304, y.ofTrain(0, 0));
        Check.due("12: rear in the section 0", 135, y.ofTrain(0, 1));
        y.section(1, 9, 0, true);
        Check.due("12: the section between", 9, y.may(0));
        BrakeCurve z = line(1);
        z.train(20, 4, 1, false);
        passHundreds(z, 29);
        z.pass(95);
        Check.due("12: a head beyond the line is of the section 19", 1, z.may(0));
        z.section(19, 3, 0, true);
        // 3014 of 3019: 5 metres are enough for 4 (4 and 12 / 8, rounded up, are 6) no more, but for 3
        Check.due("12: and goes as far as 3019", 3, z.may(0));
        z.section(19, 40, 0, true);
        Check.due("12: and no farther", 3, z.may(0));
    }

    private static void promise13Why() {
        BrakeCurve x = line(1);
        Check.noIndex("13: no train at all", x, () -> x.why(0));
        x.works(19, 19);
        x.train(20, 4, 1, false);
        Check.due("13: works, before it got its authority", 3, x.why(0));
        x.end(0);
        Check.due("13: end of the line", 0, x.why(0));
        x.pass(21);
        x.train(20, 4, 1, false);
        Check.due("13: its own head: known rear 20 less 10 is below 19", 4, x.why(1));
        x.pass(20);
        Check.due("13: known rear 40 less 10 is not below its head", 1, x.why(1));
        for (int train : new int[] {-1, 2, MIN, MAX}) {
            Check.noIndex("13: train " + train, x, () -> x.why(train));
        }
        BrakeCurve y = new BrakeCurve();
        y.train(20, 4, 3, false);
        y.pass(100);
        Check.due("13: it has left", -1, y.why(0));
        y.train(20, 4, 3, false);
        Check.due("13: none ahead that has not left", 0, y.why(1));
    }

    /** The one ahead reports last in second 281, with its rear at 280, and has no radio from its head at 300. */
    private static void promise13WhyOfSeveral() {
        BrakeCurve x = line(1);
        x.section(2, 1, 0, false);
        x.train(20, 4, 1, false);
        x.pass(170);
        x.train(20, 4, 1, false);
        Check.due("13: known rear 169 less 10", 1, x.why(1));
        x.pass(90);
        Check.due("13: known rear 259 less 10", 249, x.ofTrain(1, 3));
        x.pass(24);
        Check.due("13: its rear", 284, x.ofTrain(0, 1));
        Check.due("13: 3 seconds ago", 1, x.why(1));
        x.pass(1);
        Check.due("13: 4 seconds ago", 2, x.why(1));
        x.pass(20);
        Check.due("13: its rear is in the section 2", 305, x.ofTrain(0, 1));
        x.section(1, 1, 0, false);
        x.section(0, 1, 0, false);
        Check.due("13: whether or not it gets it", 2, x.why(1));
        // the way that it was given ends at 149, and the section 1 is free
        Check.due("13: works at 150", 1, x.works(1, 1));
        Check.due("13: of the section and works at the same metre, the smaller number", 2, x.why(1));
        BrakeCurve y = line(1);
        y.train(20, 4, 1, false);
        y.pass(161);
        y.train(20, 4, 1, false);
        y.pass(5);
        Check.due("13: known rear 165 less 10", 1, y.why(1));
        y.whole(0, false);
        y.section(0, 1, 0, false);
        y.section(1, 1, 0, false);
        y.pass(100);
        Check.due("13: by the section", 2, y.why(1));
        Check.due("13: its authority stays", 155, y.ofTrain(1, 3));
        y.pass(34);
        Check.due("13: it stands at the end of it", 155, y.ofTrain(1, 0));
        Check.due("13: the one ahead reports from the section 2, with its rear as it was known", 1, y.why(1));
    }

    private static void promise13WhyByWorksBehindTheOneAhead() {
        BrakeCurve x = line(1);
        x.train(20, 4, 1, false);
        x.pass(300);
        x.pass(20);
        x.train(20, 4, 1, false);
        Check.due("13: the one ahead", 1, x.why(1));
        Check.due("13: works between", 1, x.works(1, 1));
        Check.due("13: works between", 3, x.why(1));
        x.works(5, 5);
        Check.due("13: not those beyond", 3, x.why(1));
        BrakeCurve y = line(1);
        y.train(20, 4, 1, false);
        y.pass(160);
        y.whole(0, false);
        y.pass(150);
        Check.due("13: the known rear", 159, y.ofTrain(0, 9));
        y.train(20, 4, 1, false);
        Check.due("13: works at 150", 1, y.works(1, 1));
        Check.due("13: the report and works at the same metre: the smaller number", 1, y.why(1));
    }

    private static void promise14OfStation() {
        BrakeCurve x = line(40);
        Check.noIndex("14: no station at all", x, () -> x.ofStation(0, 0));
        x.station(300, 4);
        x.station(40, 0);
        for (int station : new int[] {-1, 2, MIN, MAX}) {
            Check.noIndex("14: station " + station, x, () -> x.ofStation(station, 0));
            Check.noIndex("14: first of all, station " + station, x, () -> x.ofStation(station, 3));
        }
        for (int what : new int[] {-1, 3, MIN, MAX}) {
            Check.noArgument("14: what " + what, x, () -> x.ofStation(1, what));
        }
        for (int train = 0; train < 4; train++) {
            x.train(20, 4, 3, train != 2);
            x.pass(60);
        }
        x.pass(300);
        Check.due("14: metre", 300, x.ofStation(0, 0));
        Check.due("14: dwell", 4, x.ofStation(0, 1));
        Check.due("14: three of four stopped", 3, x.ofStation(0, 2));
        Check.due("14: metre of the second", 40, x.ofStation(1, 0));
        Check.due("14: dwell of the second", 0, x.ofStation(1, 1));
        Check.due("14: three of four stopped there, too", 3, x.ofStation(1, 2));
    }

    private static void promise15Many() {
        BrakeCurve x = line(10);
        for (int what : new int[] {-1, 10, MIN, MAX}) {
            Check.noArgument("15: what " + what, x, () -> x.many(what));
        }
        x.station(100, 1);
        x.station(200, 1);
        x.works(18, 18);
        x.train(20, 4, 3, false);
        x.pass(5);
        // 3, 6, 9, 10, 10
        x.train(20, 4, 3, false);
        x.pass(2);
        // 10, 10; 3, 6
        int[] due = {7, 2, 0, 0, 2, 1, 0, 0, 0, 67};
        for (int what = 0; what < due.length; what++) {
            Check.due("15: many(" + what + ")", due[what], x.many(what));
        }
        x.end(0);
        x.section(0, 1, 0, true);
        x.pass(1);
        // 10 less 4 (its rear is at 58); 6 less 4
        Check.due("15: two braked", 2, x.many(6));
        Check.due("15: metres", 67 + 6 + 2, x.many(9));
        x.pass(300);
        x.pass(300);
        Check.due("15: two have left", 2, x.many(2));
        Check.due("15: two were told", 2, x.many(1));
        Check.due("15: no works", 0, x.many(5));
        Check.due("15: braked", x.ofTrain(0, 11) + x.ofTrain(1, 11), x.many(6));
        Check.due("15: metres, from 0 to 3000 each", 6000, x.many(9));
    }

    private static void promise16MeanSpeed() {
        BrakeCurve x = new BrakeCurve();
        x.train(20, 4, 3, false);
        Check.due("16: it stands", (Object) 0.0, (Object) x.meanSpeed());
        x.pass(5);
        Check.due("16: one", (Object) 15.0, (Object) x.meanSpeed());
        x.train(20, 4, 1, false);
        x.pass(3);
        Check.due("16: 24 and 3", (Object) 13.5, (Object) x.meanSpeed());
        x.pass(4);
        x.train(20, 4, 1, false);
        Check.due("16: 36, 7 and 0", (Object) (43.0 / 3.0), (Object) x.meanSpeed());
        x.pass(300);
        Check.due("16: all have left", 3, x.many(2));
        Check.due("16: none", (Object) 0.0, (Object) x.meanSpeed());
        x.train(20, 4, 3, false);
        x.pass(4);
        Check.due("16: those that have left do not count", (Object) 12.0, (Object) x.meanSpeed());
    }

    private static void askingChangesNothing() {
        BrakeCurve x = new BrakeCurve();
        x.station(500, 5);
        x.train(100, 4, 3, true);
        x.pass(20);
        x.train(30, 2, 2, true);
        x.works(1, 1);
        x.pass(5);
        long before = x.digest();
        for (int what = 0; what < 16; what++) {
            x.ofTrain(1, what);
        }
        x.ofSection(1, 3);
        x.stops(1, 40);
        x.may(1);
        x.why(1);
        x.ofStation(0, 2);
        x.many(9);
        x.meanSpeed();
        Check.due("asking changes nothing", before, x.digest());
    }
}
