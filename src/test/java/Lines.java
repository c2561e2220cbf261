/** Lines that the tests of the edges begin with. */
final class Lines {
    static final int MIN = Integer.MIN_VALUE;
    static final int MAX = Integer.MAX_VALUE;

    private Lines() {
    }

    static BrakeCurve of(int limit, int grade) {
        BrakeCurve x = new BrakeCurve();
        for (int section = 0; section < 20; section++) {
            x.section(section, limit, grade, true);
        }
        return x;
    }

    /** All go a metre a second: s seconds after a train was told its rear is at s, if nothing holds it up. */
    static BrakeCurve crawling() {
        return of(1, 0);
    }

    /** A crawling line on which train 0, of length 20, has its rear at this metre. */
    static BrakeCurve rearAt(int metre) {
        BrakeCurve x = crawling();
        x.train(20, 4, 1, false);
        pass(x, metre);
        return x;
    }

    /** Lets any number of seconds go by, in calls of 300 at most. */
    static int pass(BrakeCurve x, int seconds) {
        int left = 0;
        for (int rest = seconds; rest > 0; rest -= 300) {
            left += x.pass(Math.min(rest, 300));
        }
        return left;
    }

    static void passUntilStopped(BrakeCurve x, int station) {
        for (int second = 0; second < 100 && x.ofStation(station, 2) == 0; second++) {
            x.pass(1);
        }
    }

    /**
     * Train 0 comes downhill to works at 150, for which it braked uphill until then: in second 10 its head is at 154,
     * its speed is 15, and its authority, which it got in the section 0, is 149.
     */
    static BrakeCurve overrun(boolean hasRadio) {
        BrakeCurve x = of(40, 2);
        x.works(1, 1);
        x.train(20, 4, 3, false);
        x.pass(7);
        x.section(0, 40, -2, true);
        x.section(1, 40, -2, hasRadio);
        x.pass(3);
        return x;
    }

    /** Train 0 runs as in overrun(), but longer uphill: its head comes to 150 in second 11, at a speed of 7. */
    static BrakeCurve overrunByOneMetre() {
        BrakeCurve x = of(40, 2);
        x.works(1, 1);
        x.train(20, 4, 3, false);
        x.pass(10);
        x.section(0, 40, -2, true);
        x.pass(1);
        return x;
    }

    /** Train 0 dwells with its rear at 180; train 1 comes downhill, and is 13 metres behind it at a speed of 19. */
    static BrakeCurve aheadOfACrash() {
        BrakeCurve x = of(40, 2);
        x.station(199, 60);
        x.train(20, 4, 3, true);
        passUntilStopped(x, 0);
        x.train(20, 4, 3, false);
        x.pass(8);
        x.section(0, 40, -2, true);
        x.section(1, 40, -2, true);
        x.pass(2);
        return x;
    }

    /** Train 1 has run into train 0: heads at 199 and 183, 49 of 60 seconds of dwell left. */
    static BrakeCurve crashed() {
        BrakeCurve x = aheadOfACrash();
        x.pass(1);
        return x;
    }

    /** Train 1 stands with its head at 203, and the rear of train 0, which dwells, is at 203 or as much more. */
    static BrakeCurve met(int more) {
        BrakeCurve x = of(40, 2);
        x.station(222 + more, 60);
        x.train(20, 4, 3, true);
        passUntilStopped(x, 0);
        x.train(20, 4, 3, false);
        x.pass(7);
        x.section(0, 40, -2, true);
        x.section(1, 40, -2, true);
        x.pass(11);
        return x;
    }

    /**
     * A fast train 1 behind a slow train 0 at the end of the line, where the grade turns as they meet. With 53 and 75
     * both will crash and leave; with 50 and 72 train 1 will stay, its rear at 2983; with 51 and 75 train 0, its rear
     * at 2998.
     */
    static BrakeCurve aheadOfACrashAtTheEnd(int apart, int until) {
        BrakeCurve x = of(40, 2);
        x.section(19, 1, 2, true);
        x.train(20, 4, 3, false);
        x.pass(apart);
        x.train(20, 4, 3, false);
        x.pass(until);
        x.section(17, 40, -2, true);
        x.section(18, 40, -2, true);
        x.section(19, 1, -2, true);
        return x;
    }

    static BrakeCurve crashedAtTheEnd(int apart, int until) {
        BrakeCurve x = aheadOfACrashAtTheEnd(apart, until);
        x.pass(60);
        return x;
    }

    /** All that there may be: 4 stations, 3 works at the end of the line, and 4 trains: one has left, one dwells. */
    static BrakeCurve full() {
        BrakeCurve x = new BrakeCurve();
        x.station(900, 20);
        x.station(300, 9);
        x.station(1500, 0);
        x.station(1499, 60);
        x.section(7, 11, -1, false);
        x.train(60, 3, 3, false);
        x.pass(110);
        x.works(17, 17);
        x.works(18, 19);
        x.works(19, 19);
        x.train(30, 2, 2, true);
        x.pass(50);
        x.train(40, 4, 1, true);
        x.pass(40);
        x.train(20, 1, 3, true);
        return x;
    }
}
