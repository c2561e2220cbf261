/** Trains that run close behind each other on one line, and what would become of them. */
public final class BrakeCurve {

    private static final int NONE = -1;
    private static final int TRAIN_IS_THERE = -2;
    private static final int WAY_IS_GIVEN = -3;

    private static final int LAST_METRE = 2999;
    private static final int SECTIONS = 20;
    private static final int SECTION_METRES = 150;
    private static final int MAX_LIMIT = 40;
    private static final int MAX_GRADE = 2;
    private static final int MAX_STATIONS = 4;
    private static final int MAX_DWELL = 60;
    private static final int MAX_WORKS = 3;
    private static final int MAX_TRAINS = 4;
    private static final int MIN_LENGTH = 20;
    private static final int MAX_LENGTH = 200;
    private static final int MAX_BRAKE = 4;
    private static final int MAX_PULL = 3;

    private static final int KEPT_METRES = 10;
    private static final int FRESH_SECONDS = 3;
    /** Above every metre and every gap that there can be. */
    private static final int NO_BOUND = 1_000_000;
    private static final int NO_GAP = 1_000_000;

    private static final int BY_END = 0;
    private static final int BY_REPORT = 1;
    private static final int BY_SECTION = 2;
    private static final int BY_WORKS = 3;
    private static final int BY_OWN_HEAD = 4;

    private static final int MAX_PASS = 300;
    private static final int MAX_REACHES = 600;
    private static final int MAX_CLOSEST = 120;

    private final Line line;
    /** Made once and overwritten for each question of what would be, so that no question makes objects. */
    private final Line trial;

    public BrakeCurve() {
        line = new Line();
        trial = new Line();
    }

    // ---- what is told

    public int section(int section, int limit, int grade, boolean hasRadio)
            throws IndexOutOfBoundsException, IllegalArgumentException {
        needSection(section);
        need(isWithin(limit, 1, MAX_LIMIT) && isWithin(grade, -MAX_GRADE, MAX_GRADE));
        int before = line.track.limits[section];
        line.track.limits[section] = limit;
        line.track.grades[section] = grade;
        line.track.radios[section] = hasRadio;
        return before;
    }

    public int station(int metre, int dwell) throws IllegalArgumentException, IllegalStateException {
        need(isWithin(metre, 0, LAST_METRE) && !line.track.hasStationAt(metre) && isWithin(dwell, 0, MAX_DWELL));
        needState(line.track.stationCount < MAX_STATIONS && line.countPresent() == 0);
        return line.track.addStation(metre, dwell);
    }

    public int train(int length, int brake, int pull, boolean isStopping)
            throws IllegalArgumentException, IllegalStateException {
        need(isWithin(length, MIN_LENGTH, MAX_LENGTH) && isWithin(brake, 1, MAX_BRAKE) && isWithin(pull, 1, MAX_PULL));
        needState(line.trainCount < MAX_TRAINS && line.isFreeUpTo(length));
        return line.addTrain(length, brake, pull, isStopping);
    }

    public boolean whole(int train, boolean is) throws IndexOutOfBoundsException {
        needTrain(train);
        boolean was = line.trains[train].whole;
        line.trains[train].whole = is;
        return was;
    }

    public int works(int first, int last)
            throws IndexOutOfBoundsException, IllegalArgumentException, IllegalStateException {
        needSection(first);
        needSection(last);
        need(first <= last);
        needState(line.track.worksCount < MAX_WORKS);
        int hindrance = line.hindranceOfWorks(first, last);
        return hindrance != 0 ? hindrance : line.track.addWorks(first, last);
    }

    public int end(int works) throws IndexOutOfBoundsException {
        needIndex(works, line.track.worksCount);
        return line.track.removeWorks(works);
    }

    public int pass(int seconds) throws IllegalArgumentException {
        need(isWithin(seconds, 1, MAX_PASS));
        int left = 0;
        for (int second = 1; second <= seconds; second++) {
            left += line.goOn(NONE);
        }
        return left;
    }

    // ---- what one asks

    public int ofSection(int section, int what) throws IndexOutOfBoundsException, IllegalArgumentException {
        needSection(section);
        need(isWithin(what, 0, 4));
        switch (what) {
            case 0:
                return line.track.limits[section];
            case 1:
                return line.track.grades[section];
            case 2:
                return line.track.radios[section] ? 1 : 0;
            case 3:
                return line.countOn(section, section);
            default:
                return line.track.hasWorksOn(section) ? 1 : 0;
        }
    }

    public int ofTrain(int train, int what) throws IndexOutOfBoundsException, IllegalArgumentException {
        needTrain(train);
        need(isWithin(what, 0, 15));
        if (what == 6) {
            return line.track.nextStation(line.trains[train].stationsToCome);
        }
        if (what == 15) {
            return line.aheadOf(train);
        }
        return what < 8 ? line.trains[train].numberNow(what) : line.trains[train].numberKept(what);
    }

    public int stops(int train, int speed) throws IndexOutOfBoundsException, IllegalArgumentException {
        needTrain(train);
        need(isWithin(speed, 0, MAX_LIMIT));
        return stopMetres(speed, line.holdOf(line.trains[train]));
    }

    public int may(int train) throws IndexOutOfBoundsException {
        needTrain(train);
        return line.trains[train].left ? 0 : line.allowedSpeed(line.trains[train]);
    }

    public int why(int train) throws IndexOutOfBoundsException {
        needTrain(train);
        return line.trains[train].left ? NONE : line.reasonOf(train);
    }

    public int ofStation(int station, int what) throws IndexOutOfBoundsException, IllegalArgumentException {
        needIndex(station, line.track.stationCount);
        need(isWithin(what, 0, 2));
        switch (what) {
            case 0:
                return line.track.stationMetres[station];
            case 1:
                return line.track.dwells[station];
            default:
                return line.track.stopCounts[station];
        }
    }

    public int many(int what) throws IllegalArgumentException {
        need(isWithin(what, 0, 9));
        switch (what) {
            case 0:
                return line.now;
            case 1:
                return line.trainCount;
            case 2:
                return line.trainCount - line.countPresent();
            case 3:
                return line.countCrashed();
            case 4:
                return line.track.stationCount;
            case 5:
                return line.track.worksCount;
            default:
                return line.total(what);
        }
    }

    public double meanSpeed() {
        int present = line.countPresent();
        // A train that has left has speed 0, so that the sum of all is that of those present.
        return present == 0 ? 0.0 : (double) line.sumOfSpeeds() / (double) present;
    }

    // ---- what would be (nothing is changed)

    public int reaches(int train, int metre, int seconds) throws IndexOutOfBoundsException, IllegalArgumentException {
        needTrain(train);
        need(isWithin(metre, 0, LAST_METRE) && isWithin(seconds, 1, MAX_REACHES));
        if (line.trains[train].head >= metre) {
            return 0;
        }
        trial.copyFrom(line);
        for (int second = 1; second <= seconds; second++) {
            trial.goOn(NONE);
            if (trial.trains[train].head >= metre) {
                return second;
            }
        }
        return NONE;
    }

    public int closest(int train, int seconds) throws IndexOutOfBoundsException, IllegalArgumentException {
        needTrain(train);
        need(isWithin(seconds, 1, MAX_CLOSEST));
        int ahead = line.aheadOf(train);
        if (ahead == NONE || line.trains[train].left) {
            return NONE;
        }
        trial.copyFrom(line);
        trial.trains[train].leastGap = NO_GAP;
        for (int second = 1; second <= seconds; second++) {
            trial.goOn(ahead);
        }
        return trial.trains[train].leastGapOrNone();
    }

    public int lost(int train, int section, int limit, int seconds)
            throws IndexOutOfBoundsException, IllegalArgumentException {
        needTrain(train);
        needSection(section);
        need(isWithin(limit, 1, MAX_LIMIT) && isWithin(seconds, 1, MAX_PASS));
        trial.copyFrom(line);
        int asItIs = headAfterTrial(train, seconds);
        trial.copyFrom(line);
        trial.track.limits[section] = limit;
        return asItIs - headAfterTrial(train, seconds);
    }

    public int worksIn(int first, int last, int seconds) throws IndexOutOfBoundsException, IllegalArgumentException {
        needSection(first);
        needSection(last);
        need(first <= last && isWithin(seconds, 1, MAX_PASS));
        trial.copyFrom(line);
        for (int second = 0; second < seconds; second++) {
            if (trial.hindranceOfWorks(first, last) == 0) {
                return second;
            }
            trial.goOn(NONE);
        }
        return trial.hindranceOfWorks(first, last) == 0 ? seconds : NONE;
    }

    public long digest() {
        long d = 4810;
        for (int what = 0; what <= 9; what++) {
            d = d * 31 + many(what);
        }
        for (int section = 0; section < SECTIONS; section++) {
            for (int what = 0; what <= 4; what++) {
                d = d * 31 + ofSection(section, what);
            }
        }
        for (int train = 0; train < line.trainCount; train++) {
            for (int what = 0; what <= 15; what++) {
                d = d * 31 + ofTrain(train, what);
            }
            d = d * 31 + stops(train, 20);
            d = d * 31 + may(train);
            d = d * 31 + why(train);
            d = d * 31 + reaches(train, 2000, 90);
            d = d * 31 + closest(train, 30);
        }
        for (int station = 0; station < line.track.stationCount; station++) {
            for (int what = 0; what <= 2; what++) {
                d = d * 31 + ofStation(station, what);
            }
        }
        return d * 31 + worksIn(5, 6, 60);
    }

    private int headAfterTrial(int train, int seconds) {
        for (int second = 1; second <= seconds; second++) {
            trial.goOn(NONE);
        }
        return trial.trains[train].head;
    }

    private void needTrain(int train) {
        needIndex(train, line.trainCount);
    }

    private static void needSection(int section) {
        needIndex(section, SECTIONS);
    }

    private static void needIndex(int index, int count) {
        if (index < 0 || index >= count) {
            throw new IndexOutOfBoundsException("there is none of this number");
        }
    }

    private static void need(boolean isRight) {
        if (!isRight) {
            throw new IllegalArgumentException("an argument is not one of those allowed");
        }
    }

    private static void needState(boolean isRight) {
        if (!isRight) {
            throw new IllegalStateException("this can not be told now");
        }
    }

    private static boolean isWithin(int value, int least, int greatest) {
        return value >= least && value <= greatest;
    }

    private static int sectionAt(int metre) {
        if (metre < 0) {
            return 0;
        }
        return metre > LAST_METRE ? SECTIONS - 1 : metre / SECTION_METRES;
    }

    private static int firstMetreOf(int section) {
        return section * SECTION_METRES;
    }

    private static int stopMetres(int speed, int hold) {
        int divisor = hold < 1 ? 2 : 2 * hold;
        return speed + (speed * (speed - 1) + divisor - 1) / divisor;
    }

    /** What lies along the line: its sections, stations and works. */
    private static final class Track {
        final int[] limits = new int[SECTIONS];
        final int[] grades = new int[SECTIONS];
        final boolean[] radios = new boolean[SECTIONS];

        final int[] stationMetres = new int[MAX_STATIONS];
        final int[] dwells = new int[MAX_STATIONS];
        final int[] stopCounts = new int[MAX_STATIONS];
        int stationCount = 0;

        final int[] worksFirst = new int[MAX_WORKS];
        final int[] worksLast = new int[MAX_WORKS];
        int worksCount = 0;

        Track() {
            for (int section = 0; section < SECTIONS; section++) {
                limits[section] = MAX_LIMIT;
                radios[section] = true;
            }
        }

        void copyFrom(Track other) {
            for (int section = 0; section < SECTIONS; section++) {
                limits[section] = other.limits[section];
                grades[section] = other.grades[section];
                radios[section] = other.radios[section];
            }
            for (int station = 0; station < MAX_STATIONS; station++) {
                stationMetres[station] = other.stationMetres[station];
                dwells[station] = other.dwells[station];
                stopCounts[station] = other.stopCounts[station];
            }
            stationCount = other.stationCount;
            for (int works = 0; works < MAX_WORKS; works++) {
                worksFirst[works] = other.worksFirst[works];
                worksLast[works] = other.worksLast[works];
            }
            worksCount = other.worksCount;
        }

        int leastLimit(int fromMetre, int toMetre) {
            int least = MAX_LIMIT;
            int last = sectionAt(toMetre);
            for (int section = sectionAt(fromMetre); section <= last; section++) {
                least = Math.min(least, limits[section]);
            }
            return least;
        }

        boolean hasStationAt(int metre) {
            for (int station = 0; station < stationCount; station++) {
                if (stationMetres[station] == metre) {
                    return true;
                }
            }
            return false;
        }

        int addStation(int metre, int dwell) {
            int number = stationCount;
            stationMetres[number] = metre;
            dwells[number] = dwell;
            stopCounts[number] = 0;
            stationCount = number + 1;
            return number;
        }

        /** The stations at the metre or above it, a bit each. */
        int stationsFrom(int metre) {
            int stations = 0;
            for (int station = 0; station < stationCount; station++) {
                if (stationMetres[station] >= metre) {
                    stations |= 1 << station;
                }
            }
            return stations;
        }

        /** The one of these stations that has the least metre. */
        int nextStation(int stations) {
            int next = NONE;
            for (int station = 0; station < stationCount; station++) {
                boolean isOne = (stations & (1 << station)) != 0;
                if (isOne && (next == NONE || stationMetres[station] < stationMetres[next])) {
                    next = station;
                }
            }
            return next;
        }

        int addWorks(int first, int last) {
            worksFirst[worksCount] = first;
            worksLast[worksCount] = last;
            worksCount++;
            return worksCount;
        }

        int removeWorks(int number) {
            for (int works = number + 1; works < worksCount; works++) {
                worksFirst[works - 1] = worksFirst[works];
                worksLast[works - 1] = worksLast[works];
            }
            worksCount--;
            return worksCount;
        }

        boolean hasWorksOn(int section) {
            for (int works = 0; works < worksCount; works++) {
                if (isWithin(section, worksFirst[works], worksLast[works])) {
                    return true;
                }
            }
            return false;
        }

        /** The metre up to which the works ahead of a head leave the line free. */
        int boundByWorks(int head) {
            int bound = NO_BOUND;
            for (int works = 0; works < worksCount; works++) {
                int first = firstMetreOf(worksFirst[works]);
                if (first > head) {
                    bound = Math.min(bound, first - 1);
                }
            }
            return bound;
        }
    }

    /** One train: what it is, where it is, and what is known of it. */
    private static final class Train {
        int length = 0;
        int brake = 0;
        int pull = 0;
        boolean whole = true;

        int head = 0;
        int speed = 0;
        int authority = 0;
        int dwellLeft = 0;
        /** A bit for each station that it has still to stop at. */
        int stationsToCome = 0;
        boolean left = false;
        boolean crashed = false;

        int knownHead = 0;
        int knownRear = 0;
        int reportSecond = 0;

        int brakedSeconds = 0;
        int overrunSeconds = 0;
        int missedStations = 0;
        int leastGap = NO_GAP;

        void copyFrom(Train other) {
            length = other.length;
            brake = other.brake;
            pull = other.pull;
            whole = other.whole;
            head = other.head;
            speed = other.speed;
            authority = other.authority;
            dwellLeft = other.dwellLeft;
            stationsToCome = other.stationsToCome;
            left = other.left;
            crashed = other.crashed;
            knownHead = other.knownHead;
            knownRear = other.knownRear;
            reportSecond = other.reportSecond;
            brakedSeconds = other.brakedSeconds;
            overrunSeconds = other.overrunSeconds;
            missedStations = other.missedStations;
            leastGap = other.leastGap;
        }

        int rear() {
            return head - length + 1;
        }

        /** A train is told with its head at its length less 1. */
        int metresGone() {
            return head - (length - 1);
        }

        boolean isOn(int firstSection, int lastSection) {
            return sectionAt(head) >= firstSection && sectionAt(rear()) <= lastSection;
        }

        void report(int now) {
            knownHead = head;
            if (whole) {
                knownRear = rear();
            }
            reportSecond = now;
        }

        void crash() {
            crashed = true;
            speed = 0;
        }

        int leastGapOrNone() {
            return leastGap == NO_GAP ? NONE : leastGap;
        }

        int numberNow(int what) {
            switch (what) {
                case 0:
                    return head;
                case 1:
                    return rear();
                case 2:
                    return speed;
                case 3:
                    return authority;
                case 4:
                    return whole ? 1 : 0;
                case 5:
                    return dwellLeft;
                default:
                    return left ? 1 : crashed ? 2 : 0;
            }
        }

        int numberKept(int what) {
            switch (what) {
                case 8:
                    return knownHead;
                case 9:
                    return knownRear;
                case 10:
                    return reportSecond;
                case 11:
                    return brakedSeconds;
                case 12:
                    return overrunSeconds;
                case 13:
                    return missedStations;
                default:
                    return leastGapOrNone();
            }
        }
    }

    /** The track with all trains on it, and the second that it is. */
    private static final class Line {
        final Track track = new Track();
        /** As they were told: each runs behind the one before it. */
        final Train[] trains = new Train[MAX_TRAINS];
        int trainCount = 0;
        int now = 0;

        Line() {
            for (int number = 0; number < MAX_TRAINS; number++) {
                trains[number] = new Train();
            }
        }

        void copyFrom(Line other) {
            track.copyFrom(other.track);
            for (int number = 0; number < MAX_TRAINS; number++) {
                trains[number].copyFrom(other.trains[number]);
            }
            trainCount = other.trainCount;
            now = other.now;
        }

        int addTrain(int length, int brake, int pull, boolean isStopping) {
            int number = trainCount;
            Train train = trains[number];
            train.length = length;
            train.brake = brake;
            train.pull = pull;
            train.head = length - 1;
            train.authority = train.head;
            train.stationsToCome = isStopping ? track.stationsFrom(train.head) : 0;
            train.report(now);
            trainCount = number + 1;
            return number;
        }

        boolean isFreeUpTo(int metre) {
            for (int number = 0; number < trainCount; number++) {
                if (!trains[number].left && trains[number].rear() <= metre) {
                    return false;
                }
            }
            return true;
        }

        int countPresent() {
            int count = 0;
            for (int number = 0; number < trainCount; number++) {
                count += trains[number].left ? 0 : 1;
            }
            return count;
        }

        int countCrashed() {
            int count = 0;
            for (int number = 0; number < trainCount; number++) {
                count += trains[number].crashed ? 1 : 0;
            }
            return count;
        }

        int countOn(int firstSection, int lastSection) {
            int count = 0;
            for (int number = 0; number < trainCount; number++) {
                boolean isThere = !trains[number].left && trains[number].isOn(firstSection, lastSection);
                count += isThere ? 1 : 0;
            }
            return count;
        }

        int sumOfSpeeds() {
            int sum = 0;
            for (int number = 0; number < trainCount; number++) {
                sum += trains[number].speed;
            }
            return sum;
        }

        /** The sum over all trains ever told, by the numbers that many() gives to such sums. */
        int total(int what) {
            int sum = 0;
            for (int number = 0; number < trainCount; number++) {
                Train train = trains[number];
                switch (what) {
                    case 6:
                        sum += train.brakedSeconds;
                        break;
                    case 7:
                        sum += train.overrunSeconds;
                        break;
                    case 8:
                        sum += train.missedStations;
                        break;
                    default:
                        sum += train.metresGone();
                        break;
                }
            }
            return sum;
        }

        int aheadOf(int number) {
            int ahead = number - 1;
            return ahead < 0 || trains[ahead].left ? NONE : ahead;
        }

        int holdOf(Train train) {
            return Math.max(1, train.brake + track.grades[sectionAt(train.head)]);
        }

        int allowedSpeed(Train train) {
            int way = train.authority - train.head;
            // A station behind the head is never one to come: it was missed as the head went beyond it.
            int next = track.nextStation(train.stationsToCome);
            if (next != NONE) {
                way = Math.min(way, track.stationMetres[next] - train.head);
            }
            int hold = holdOf(train);
            for (int speed = track.leastLimit(train.rear(), train.head); speed > 0; speed--) {
                if (stopMetres(speed, hold) <= way) {
                    return speed;
                }
            }
            return 0;
        }

        boolean isFresh(Train train) {
            return now - train.reportSecond <= FRESH_SECONDS;
        }

        int boundByEnd(Train train) {
            return LAST_METRE + train.length;
        }

        int boundByAhead(int number) {
            int ahead = aheadOf(number);
            if (ahead == NONE) {
                return NO_BOUND;
            }
            int rear = trains[ahead].knownRear;
            return isFresh(trains[ahead]) ? rear - KEPT_METRES : firstMetreOf(sectionAt(rear)) - 1;
        }

        int leastBound(int number) {
            int bound = Math.min(boundByEnd(trains[number]), boundByAhead(number));
            return Math.min(bound, track.boundByWorks(trains[number].head));
        }

        int reasonOf(int number) {
            int least = leastBound(number);
            if (least < trains[number].head) {
                return BY_OWN_HEAD;
            }
            if (least == boundByEnd(trains[number])) {
                return BY_END;
            }
            int ahead = aheadOf(number);
            if (ahead != NONE && least == boundByAhead(number)) {
                return isFresh(trains[ahead]) ? BY_REPORT : BY_SECTION;
            }
            return BY_WORKS;
        }

        /** What keeps works from beginning on these sections: 0 if nothing does. */
        int hindranceOfWorks(int first, int last) {
            if (countOn(first, last) > 0) {
                return TRAIN_IS_THERE;
            }
            int metre = firstMetreOf(first);
            for (int number = 0; number < trainCount; number++) {
                Train train = trains[number];
                if (!train.left && train.head < metre && train.authority >= metre) {
                    return WAY_IS_GIVEN;
                }
            }
            return 0;
        }

        /** One second, in which the train of the number standing (or NONE) neither reports nor goes. */
        int goOn(int standing) {
            now++;
            reportAll(standing);
            for (int number = 0; number < trainCount; number++) {
                if (!trains[number].left && hasRadio(trains[number])) {
                    trains[number].authority = Math.max(leastBound(number), trains[number].head);
                }
            }
            for (int number = 0; number < trainCount; number++) {
                if (!trains[number].left && !trains[number].crashed && number != standing) {
                    go(trains[number]);
                }
            }
            for (int number = 0; number < trainCount; number++) {
                if (!trains[number].left) {
                    look(number);
                }
            }
            return leaveAll();
        }

        boolean hasRadio(Train train) {
            return track.radios[sectionAt(train.head)];
        }

        void reportAll(int standing) {
            for (int number = 0; number < trainCount; number++) {
                if (!trains[number].left && number != standing && hasRadio(trains[number])) {
                    trains[number].report(now);
                }
            }
        }

        void go(Train train) {
            if (train.dwellLeft > 0) {
                train.dwellLeft--;
                return;
            }
            int allowed = allowedSpeed(train);
            if (train.speed < allowed) {
                train.speed = Math.min(train.speed + train.pull, allowed);
            } else if (train.speed > allowed) {
                train.speed = Math.max(train.speed - holdOf(train), allowed);
                train.brakedSeconds++;
            }
            train.head += train.speed;
            stopAtStation(train);
            missStations(train);
        }

        void stopAtStation(Train train) {
            int next = track.nextStation(train.stationsToCome);
            if (next != NONE && train.speed == 0 && track.stationMetres[next] == train.head) {
                train.dwellLeft = track.dwells[next];
                train.stationsToCome &= ~(1 << next);
                track.stopCounts[next]++;
            }
        }

        void missStations(Train train) {
            int stillAhead = train.stationsToCome & track.stationsFrom(train.head);
            train.missedStations += Integer.bitCount(train.stationsToCome) - Integer.bitCount(stillAhead);
            train.stationsToCome = stillAhead;
        }

        void look(int number) {
            Train train = trains[number];
            if (train.head > train.authority) {
                train.overrunSeconds++;
            }
            int ahead = aheadOf(number);
            if (ahead == NONE) {
                return;
            }
            int gap = trains[ahead].rear() - train.head - 1;
            train.leastGap = Math.min(train.leastGap, gap);
            if (gap < 0) {
                train.crash();
                trains[ahead].crash();
            }
        }

        int leaveAll() {
            int count = 0;
            for (int number = 0; number < trainCount; number++) {
                Train train = trains[number];
                if (!train.left && train.rear() > LAST_METRE) {
                    train.left = true;
                    train.speed = 0;
                    count++;
                }
            }
            return count;
        }
    }
}
