/** Places with ways that are so long there and otherwise back; see README.md. */
public final class LongerBack {
    private static final int BEYOND = -1000000001;
    private static final int FULL = -1000000002;
    private static final int KIND = -1000000003;
    private static final int NONE = -1000000004;
    private static final int STATE = -1000000005;
    private static final int MISSING = -1000000006;
    private static final int SIZE = -1000000007;
    private static final int FINDINGS = 7;

    private static final int MOST_PLACES = 10;
    private static final int MOST_WAYS = MOST_PLACES * MOST_PLACES;
    private static final int MOST_ROWS = 8;
    private static final int MOST_STOPS = 6;
    private static final int MOST_ERRANDS = 99;
    private static final int LEAST_MILES = -99;
    private static final int MOST_MILES = 999;
    private static final int MOST_TOTAL = 9999;
    private static final int MOST_SLACK = 99;
    private static final int MOST_STEPS = 1000;
    private static final int MOST_BYTES = 120;
    private static final int SHEETS = 4;
    private static final int MOST_NUMBERS = 40;

    private static final int ROUND = 0;
    private static final int TOLD = 1;
    private static final int BEST = 2;
    private static final int MEET = 3;
    private static final int TURN = 4;
    private static final int PAIRS = 5;
    private static final int RACE = 6;
    private static final int KINDS = 7;
    /** The KIND that each KIND stands under. */
    private static final int[] ABOVE = {-1, ROUND, ROUND, ROUND, TOLD, ROUND, BEST};

    /** Stands for a length that is not there; a real one never comes near it. */
    private static final int NO_LENGTH = 1000000000;

    private final Land here = new Land();
    private final Land kept = new Land();
    /** For what may have to be thrown away again, so that a FAULT changes nothing. */
    private final Land draft = new Land();
    private boolean isKept = false;
    private final Atlas atlas = new Atlas();
    private final Atlas mended = new Atlas();
    private final Sums sums = new Sums();
    private final Slopes slopes = new Slopes();
    private final Learner learner = new Learner();
    private final Text text = new Text();
    private final Sheet[] sheets = new Sheet[SHEETS];
    private final int[] found = new int[FINDINGS];

    public LongerBack() {
        for (int s = 0; s < SHEETS; s++) {
            sheets[s] = new Sheet();
        }
    }

    // ---- places, ways

    public int place() {
        if (here.places >= MOST_PLACES) {
            return finding(FULL);
        }
        return here.addPlace(0);
    }

    public int errands(int place, int v) {
        if (!here.isPlace(place) || !isWithin(v, 0, MOST_ERRANDS)) {
            return finding(BEYOND);
        }
        int was = here.errands[place];
        here.errands[place] = v;
        return was;
    }

    public int way(int from, int to, int low, int high) {
        if (!here.areTwo(from, to) || !areEnds(low, high)) {
            return finding(BEYOND);
        }
        boolean was = here.isThere(from, to);
        here.setWay(from, to, low, high);
        return was ? 0 : 1;
    }

    public int wayOf(int from, int to, int what) {
        if (!here.areTwo(from, to) || !isWithin(what, 0, 2)) {
            return finding(BEYOND);
        }
        if (!here.isThere(from, to)) {
            return finding(NONE);
        }
        if (what == 0) {
            return here.lowOf(from, to);
        }
        if (what == 1) {
            return here.highOf(from, to);
        }
        return here.isOpen(from, to) ? 0 : 1;
    }

    public int shut(int from, int to, boolean is) {
        if (!here.areTwo(from, to)) {
            return finding(BEYOND);
        }
        if (!here.isThere(from, to)) {
            return finding(NONE);
        }
        boolean was = !here.isOpen(from, to);
        here.setShut(from, to, is);
        return was == is ? 0 : 1;
    }

    // ---- far

    public int far(int from, int to) {
        if (!here.isPlace(from) || !here.isPlace(to)) {
            return finding(BEYOND);
        }
        if (isLooped()) {
            return finding(STATE);
        }
        return lengthOrNone(atlas.farOf(from, to));
    }

    public int by(int from, int to, int what) {
        if (!here.isPlace(from) || !here.isPlace(to) || !isWithin(what, -1, MOST_PLACES - 1)) {
            return finding(BEYOND);
        }
        if (isLooped()) {
            return finding(STATE);
        }
        int ways = atlas.waysOf(from, to);
        if (ways < 0 || what > ways) {
            return finding(NONE);
        }
        return what < 0 ? ways : atlas.stopOf(here, from, to, what);
    }

    public int loops() {
        atlas.measure(here);
        return atlas.loopSet();
    }

    public int longer(int from, int to) {
        if (!here.isPlace(from) || !here.isPlace(to)) {
            return finding(BEYOND);
        }
        if (isLooped()) {
            return finding(STATE);
        }
        int there = atlas.farOf(from, to);
        int back = atlas.farOf(to, from);
        if (there == NO_LENGTH || back == NO_LENGTH) {
            return finding(NONE);
        }
        return there - back;
    }

    // ---- rounds

    public int round(int kind, int place) {
        if (!isKind(kind) || !here.isPlace(place)) {
            return finding(BEYOND);
        }
        if (here.rounds.isFull()) {
            return finding(FULL);
        }
        return here.addRound(kind, place);
    }

    public int over(int round, int place) {
        if (!here.rounds.has(round) || !here.isPlace(place)) {
            return finding(BEYOND);
        }
        if (here.rounds.isFullRow(round)) {
            return finding(FULL);
        }
        return here.rounds.append(round, place);
    }

    public int sum(int round) {
        if (!here.rounds.has(round)) {
            return finding(BEYOND);
        }
        if (isLooped()) {
            return finding(STATE);
        }
        return lengthOrNone(sums.sumOf(here, atlas, round));
    }

    public int roundOf(int round, int what) {
        if (!here.rounds.has(round) || !isWithin(what, -2, MOST_STOPS - 1)) {
            return finding(BEYOND);
        }
        if (what == -1) {
            return here.kinds[round];
        }
        int stops = here.rounds.lengths[round];
        if (what == -2) {
            return stops;
        }
        return what < stops ? here.rounds.stop(round, what) : finding(NONE);
    }

    public int as(int round, int kind) {
        if (!here.rounds.has(round) || !isKind(kind)) {
            return finding(BEYOND);
        }
        if (!isUnder(here.kinds[round], kind)) {
            return finding(KIND);
        }
        return here.rounds.lengths[round];
    }

    // ---- living, meeting

    public int live() {
        if (isLooped()) {
            return finding(STATE);
        }
        int home = atlas.homeOf(here);
        return home < 0 ? finding(NONE) : home;
    }

    public int trip(int place) {
        if (!here.isPlace(place)) {
            return finding(BEYOND);
        }
        if (isLooped()) {
            return finding(STATE);
        }
        return lengthOrNone(atlas.tripOf(here, place));
    }

    public int meet(int one, int other, int what) {
        if (!here.isPlace(one) || !here.isPlace(other) || !isWithin(what, 0, 2)) {
            return finding(BEYOND);
        }
        if (isLooped()) {
            return finding(STATE);
        }
        int where = atlas.meetingOf(one, other, what);
        return where < 0 ? finding(NONE) : where;
    }

    // ---- heights, paper

    public int fit() {
        slopes.climb(here);
        return slopes.doFit(here) ? 1 : 0;
    }

    public int height(int place) {
        if (!here.isPlace(place)) {
            return finding(BEYOND);
        }
        slopes.climb(here);
        if (!slopes.doFit(here)) {
            return finding(STATE);
        }
        return slopes.heights[place];
    }

    public int paper(int one, int other) {
        if (!here.areTwo(one, other)) {
            return finding(BEYOND);
        }
        if (!here.areBothWays(one, other)) {
            return finding(NONE);
        }
        return Slopes.paperOf(here, one, other);
    }

    public int worst() {
        int most = Slopes.mostOffPaper(here);
        return most < 0 ? finding(NONE) : most;
    }

    // ---- walks

    public int walk(int from, int to, int total, int slack) {
        if (!here.areTwo(from, to) || !isWithin(total, -MOST_TOTAL, MOST_TOTAL) || !isWithin(slack, 0, MOST_SLACK)) {
            return finding(BEYOND);
        }
        if (here.walks.isFull()) {
            return finding(FULL);
        }
        int walk = here.addWalk(from, total, slack);
        here.walks.append(walk, to);
        return walk;
    }

    public int on(int walk, int place) {
        if (!here.walks.has(walk) || !here.isPlace(place) || here.walks.lastStop(walk) == place) {
            return finding(BEYOND);
        }
        if (here.walks.isFullRow(walk)) {
            return finding(FULL);
        }
        return here.walks.append(walk, place);
    }

    public int learn() {
        return learner.learnIn(here);
    }

    public int lies() {
        draft.become(here);
        learner.learnIn(draft);
        return learner.liars;
    }

    public int known(int what) {
        if (what == 0) {
            return here.countWays();
        }
        if (what == 1) {
            return here.countUnknown();
        }
        if (what == 2) {
            return here.allBetweenEnds();
        }
        return finding(BEYOND);
    }

    public int ask() {
        int way = here.widestWay();
        return way < 0 ? finding(NONE) : way;
    }

    // ---- mending, the hollow

    public int saves(int one, int other) {
        if (!here.areTwo(one, other)) {
            return finding(BEYOND);
        }
        if (!here.areBothWays(one, other)) {
            return finding(NONE);
        }
        if (isLooped() || !mended.mendFrom(atlas, here, one, other)) {
            return finding(STATE);
        }
        int now = atlas.leastTrip(here);
        if (now == NO_LENGTH) {
            return finding(NONE);
        }
        return now - mended.leastTrip(here);
    }

    public int mend() {
        if (isLooped()) {
            return finding(STATE);
        }
        int now = atlas.leastTrip(here);
        int two = now == NO_LENGTH ? -1 : bestToMend(now);
        return two < 0 ? finding(NONE) : two;
    }

    public int goes(int place, int n) {
        if (!here.isPlace(place) || !isWithin(n, 0, MOST_STEPS)) {
            return finding(BEYOND);
        }
        int at = here.comesTo(place, n);
        return at < 0 ? finding(NONE) : at;
    }

    public int hollow() {
        return here.hollowSet();
    }

    // ---- the text

    public int feed(int bytes, int n) {
        if (!isWithin(n, 1, 4)) {
            return finding(BEYOND);
        }
        if (text.size + n > MOST_BYTES) {
            return finding(FULL);
        }
        for (int left = n - 1; left >= 0; left--) {
            text.addByte((bytes >>> (8 * left)) & 255);
        }
        return text.size;
    }

    public int wipe() {
        int had = text.size;
        text.size = 0;
        return had;
    }

    public int land() {
        draft.become(here);
        int items = text.tellTo(draft);
        if (items >= 0) {
            here.become(draft);
        }
        text.size = 0;
        return items;
    }

    // ---- sheets

    public int sheet(int s, int bits, int n) {
        if (!isSheet(s) || !(bits == 0 || bits == 8 || bits == 16 || bits == 64)) {
            return finding(BEYOND);
        }
        if (n < 0) {
            return finding(SIZE);
        }
        if (n > MOST_NUMBERS) {
            return finding(BEYOND);
        }
        sheets[s].begin(bits, bits == 0 ? 0 : n);
        return sheets[s].size;
    }

    public long write(int s, int i, long v) {
        if (!isSheet(s)) {
            return finding(BEYOND);
        }
        Sheet sheet = sheets[s];
        if (sheet.isMissing()) {
            return finding(MISSING);
        }
        if (i < 0 || i >= sheet.size) {
            return finding(BEYOND);
        }
        long was = sheet.numbers[i];
        sheet.numbers[i] = sheet.lowestBits(v);
        return was;
    }

    public int copy(int s, int from, int t, int to, int n) {
        if (!isSheet(s) || !isSheet(t)) {
            return finding(BEYOND);
        }
        Sheet source = sheets[s];
        Sheet target = sheets[t];
        if (source.isMissing() || target.isMissing()) {
            return finding(MISSING);
        }
        if (source.bits != target.bits) {
            return finding(KIND);
        }
        if (!source.hasSpan(from, n) || !target.hasSpan(to, n)) {
            return finding(BEYOND);
        }
        System.arraycopy(source.numbers, from, target.numbers, to, n);
        return n;
    }

    public int lays(int s, int place) {
        if (!isSheet(s)) {
            return finding(BEYOND);
        }
        if (sheets[s].isMissing()) {
            return finding(MISSING);
        }
        if (!here.isPlace(place)) {
            return finding(BEYOND);
        }
        return layWays(sheets[s], place);
    }

    public int read(int s) {
        if (!isSheet(s)) {
            return finding(BEYOND);
        }
        if (sheets[s].isMissing()) {
            return finding(MISSING);
        }
        if (isLooped()) {
            return finding(STATE);
        }
        return readRow(sheets[s]);
    }

    // ---- images

    public int image() {
        kept.become(here);
        isKept = true;
        return 1;
    }

    public int undo() {
        if (!isKept) {
            return finding(NONE);
        }
        here.become(kept);
        return here.places;
    }

    public int tear() {
        int was = isKept ? 1 : 0;
        isKept = false;
        return was;
    }

    public int count(int what) {
        switch (what) {
            case 0:
                return here.places;
            case 1:
                return here.countWays();
            case 2:
                return here.rounds.count;
            case 3:
                return here.walks.count;
            case 4:
                return text.size;
            case 5:
                return here.allErrands();
            default:
                return finding(BEYOND);
        }
    }

    public int status(int which) {
        if (!isWithin(which, -1, FINDINGS - 1)) {
            return finding(BEYOND);
        }
        if (which >= 0) {
            return found[which];
        }
        int all = 0;
        for (int i = 0; i < FINDINGS; i++) {
            all += found[i];
        }
        return all;
    }

    // ---- what several acts need

    private int finding(int which) {
        int slot = BEYOND - which;
        if (slot >= 0 && slot < FINDINGS) {
            found[slot]++;
        }
        return which;
    }

    private int lengthOrNone(int length) {
        return length == NO_LENGTH ? finding(NONE) : length;
    }

    /** Measures anew at each question: an atlas that is kept could be out of date. */
    private boolean isLooped() {
        atlas.measure(here);
        return atlas.hasLoop();
    }

    private int bestToMend(int now) {
        int two = -1;
        int most = 0;
        for (int one = 0; one < here.places; one++) {
            for (int other = one + 1; other < here.places; other++) {
                if (here.areBothWays(one, other) && mended.mendFrom(atlas, here, one, other)) {
                    int saved = now - mended.leastTrip(here);
                    if (two < 0 || saved > most) {
                        two = 10 * one + other;
                        most = saved;
                    }
                }
            }
        }
        return two;
    }

    private int layWays(Sheet sheet, int place) {
        int came = 0;
        for (int to = 0; to < sheet.size && to < here.places; to++) {
            long miles = sheet.numbers[to];
            if (to != place && miles >= LEAST_MILES && miles <= MOST_MILES) {
                here.setWay(place, to, (int) miles, (int) miles);
                came++;
            }
        }
        return came;
    }

    private int readRow(Sheet sheet) {
        if (sheet.size < 2) {
            return 1;
        }
        int first = 0;
        int last = 0;
        int sum = 0;
        for (int i = 0; i < sheet.size; i++) {
            long number = sheet.numbers[i];
            if (!here.isPlace(number)) {
                return 1 + i;
            }
            int stop = (int) number;
            if (i == 0) {
                first = stop;
            } else if (here.isOpen(last, stop)) {
                sum += here.lowOf(last, stop);
            } else {
                return 1 + i;
            }
            last = stop;
        }
        return sum == atlas.farOf(first, last) ? 0 : 1 + sheet.size;
    }

    private static boolean isSheet(int s) {
        return isWithin(s, 0, SHEETS - 1);
    }

    private static boolean isKind(int kind) {
        return isWithin(kind, 0, KINDS - 1);
    }

    private static boolean isUnder(int kind, int above) {
        int at = kind;
        for (int depth = 0; depth < KINDS && isKind(at); depth++) {
            if (at == above) {
                return true;
            }
            at = ABOVE[at];
        }
        return false;
    }

    private static boolean isWithin(int number, int least, int most) {
        return number >= least && number <= most;
    }

    private static boolean areEnds(int low, int high) {
        return low >= LEAST_MILES && low <= high && high <= MOST_MILES;
    }

    private static int together(int one, int other) {
        return one == NO_LENGTH || other == NO_LENGTH ? NO_LENGTH : one + other;
    }

    /** Rows of PLACES, as ROUNDS and WALKS have them. */
    private static final class Rows {
        int count = 0;
        final int[] lengths = new int[MOST_ROWS];
        private final int[] stops = new int[MOST_ROWS * MOST_STOPS];

        boolean has(int row) {
            return row >= 0 && row < count;
        }

        boolean isFull() {
            return count >= MOST_ROWS;
        }

        boolean isFullRow(int row) {
            return lengths[row] >= MOST_STOPS;
        }

        int begin(int place) {
            int row = count;
            count++;
            lengths[row] = 0;
            append(row, place);
            return row;
        }

        int append(int row, int place) {
            stops[row * MOST_STOPS + lengths[row]] = place;
            lengths[row]++;
            return lengths[row];
        }

        int stop(int row, int i) {
            return stops[row * MOST_STOPS + i];
        }

        int lastStop(int row) {
            return stop(row, lengths[row] - 1);
        }

        void become(Rows other) {
            count = other.count;
            System.arraycopy(other.lengths, 0, lengths, 0, MOST_ROWS);
            System.arraycopy(other.stops, 0, stops, 0, MOST_ROWS * MOST_STOPS);
        }
    }

    /** All that an image keeps: what section 1 of the document tells, but for THE TAPE. */
    private static final class Land {
        private static final int ABSENT = 0;
        private static final int OPEN = 1;
        private static final int CLOSED = 2;

        int places = 0;
        final int[] errands = new int[MOST_PLACES];
        /** Each WAY stands at 10 times from and to, as ask() tells it. */
        final int[] low = new int[MOST_WAYS];
        final int[] high = new int[MOST_WAYS];
        private final int[] doors = new int[MOST_WAYS];
        final Rows rounds = new Rows();
        final int[] kinds = new int[MOST_ROWS];
        final Rows walks = new Rows();
        final int[] totals = new int[MOST_ROWS];
        final int[] slacks = new int[MOST_ROWS];

        void become(Land other) {
            places = other.places;
            System.arraycopy(other.errands, 0, errands, 0, MOST_PLACES);
            System.arraycopy(other.low, 0, low, 0, MOST_WAYS);
            System.arraycopy(other.high, 0, high, 0, MOST_WAYS);
            System.arraycopy(other.doors, 0, doors, 0, MOST_WAYS);
            rounds.become(other.rounds);
            System.arraycopy(other.kinds, 0, kinds, 0, MOST_ROWS);
            walks.become(other.walks);
            System.arraycopy(other.totals, 0, totals, 0, MOST_ROWS);
            System.arraycopy(other.slacks, 0, slacks, 0, MOST_ROWS);
        }

        boolean isPlace(long number) {
            return number >= 0 && number < places;
        }

        boolean areTwo(int one, int other) {
            return isPlace(one) && isPlace(other) && one != other;
        }

        static int wayAt(int from, int to) {
            return MOST_PLACES * from + to;
        }

        boolean isThere(int from, int to) {
            return doors[wayAt(from, to)] != ABSENT;
        }

        boolean isOpen(int from, int to) {
            return doors[wayAt(from, to)] == OPEN;
        }

        boolean areBothWays(int one, int other) {
            return isOpen(one, other) && isOpen(other, one);
        }

        int lowOf(int from, int to) {
            return low[wayAt(from, to)];
        }

        int highOf(int from, int to) {
            return high[wayAt(from, to)];
        }

        int addPlace(int errandsThere) {
            int place = places;
            places++;
            errands[place] = errandsThere;
            return place;
        }

        void setWay(int from, int to, int least, int most) {
            int way = wayAt(from, to);
            low[way] = least;
            high[way] = most;
            doors[way] = OPEN;
        }

        void setShut(int from, int to, boolean is) {
            doors[wayAt(from, to)] = is ? CLOSED : OPEN;
        }

        int addRound(int kind, int place) {
            int round = rounds.begin(place);
            kinds[round] = kind;
            return round;
        }

        int addWalk(int place, int total, int slack) {
            int walk = walks.begin(place);
            totals[walk] = total;
            slacks[walk] = slack;
            return walk;
        }

        int allErrands() {
            int all = 0;
            for (int place = 0; place < places; place++) {
                all += errands[place];
            }
            return all;
        }

        int countWays() {
            int ways = 0;
            for (int way = 0; way < MOST_WAYS; way++) {
                ways += doors[way] == ABSENT ? 0 : 1;
            }
            return ways;
        }

        int countUnknown() {
            int ways = 0;
            for (int way = 0; way < MOST_WAYS; way++) {
                ways += doors[way] != ABSENT && low[way] < high[way] ? 1 : 0;
            }
            return ways;
        }

        int allBetweenEnds() {
            int all = 0;
            for (int way = 0; way < MOST_WAYS; way++) {
                all += doors[way] == ABSENT ? 0 : high[way] - low[way];
            }
            return all;
        }

        /** Of open WAYS alone: for ask() the document has no word of SHUT ones. */
        int widestWay() {
            int widest = -1;
            int most = 0;
            for (int way = 0; way < MOST_WAYS; way++) {
                if (doors[way] == OPEN && high[way] - low[way] > most) {
                    widest = way;
                    most = high[way] - low[way];
                }
            }
            return widest;
        }

        /** THE NEAREST, or -1 where no WAY leads on. */
        private int nearestOf(int place) {
            int nearest = -1;
            int least = NO_LENGTH;
            for (int to = 0; to < places; to++) {
                if (isOpen(place, to) && lowOf(place, to) < least) {
                    nearest = to;
                    least = lowOf(place, to);
                }
            }
            return nearest;
        }

        int comesTo(int place, int steps) {
            int at = place;
            for (int step = 0; step < steps && at >= 0; step++) {
                at = nearestOf(at);
            }
            return at;
        }

        int hollowSet() {
            int set = 0;
            for (int start = 0; start < places; start++) {
                // Behind as many steps as there are PLACES one goes in a circle, or has stopped.
                int at = comesTo(start, places);
                for (int step = 0; step < places && at >= 0; step++) {
                    set |= 1 << at;
                    at = nearestOf(at);
                }
            }
            return set;
        }
    }

    /** FAR between all PLACES of a land, and what is told by FAR. */
    private static final class Atlas {
        /**
         * A length is 100 times its MILES and 1 more for each WAY: so the lesser one of two
         * has fewer WAYS where MILES are alike, and a LOOP (10 WAYS at most) stays below 0.
         */
        private static final int PER_MILE = 100;
        /** Round a LOOP lengths would sink ever further; only that they are below 0 matters. */
        private static final int DEEPEST = -100000000;

        private int places = 0;
        private final int[] lengths = new int[MOST_WAYS];

        void measure(Land land) {
            places = land.places;
            for (int from = 0; from < places; from++) {
                for (int to = 0; to < places; to++) {
                    lengths[MOST_PLACES * from + to] = from == to ? 0 : oneWay(land, from, to);
                }
            }
            for (int over = 0; over < places; over++) {
                shortenOver(over);
            }
        }

        private static int oneWay(Land land, int from, int to) {
            return land.isOpen(from, to) ? PER_MILE * land.lowOf(from, to) + 1 : NO_LENGTH;
        }

        private int lengthOf(int from, int to) {
            return lengths[MOST_PLACES * from + to];
        }

        private void shortenOver(int over) {
            for (int from = 0; from < places; from++) {
                int head = lengthOf(from, over);
                for (int to = 0; to < places && head != NO_LENGTH; to++) {
                    int length = together(head, lengthOf(over, to));
                    if (length < lengthOf(from, to)) {
                        lengths[MOST_PLACES * from + to] = Math.max(length, DEEPEST);
                    }
                }
            }
        }

        boolean hasLoop() {
            for (int place = 0; place < places; place++) {
                if (lengthOf(place, place) < 0) {
                    return true;
                }
            }
            return false;
        }

        int loopSet() {
            int set = 0;
            for (int place = 0; place < places; place++) {
                for (int other = 0; other < places; other++) {
                    if (lengthOf(other, other) < 0 && isBackAndForth(place, other)) {
                        set |= 1 << place;
                    }
                }
            }
            return set;
        }

        private boolean isBackAndForth(int one, int other) {
            return lengthOf(one, other) != NO_LENGTH && lengthOf(other, one) != NO_LENGTH;
        }

        int farOf(int from, int to) {
            int length = lengthOf(from, to);
            return length == NO_LENGTH ? NO_LENGTH : Math.floorDiv(length, PER_MILE);
        }

        /** How many WAYS, or -1 if one can't go there. */
        int waysOf(int from, int to) {
            int length = lengthOf(from, to);
            return length == NO_LENGTH ? -1 : Math.floorMod(length, PER_MILE);
        }

        int stopOf(Land land, int from, int to, int i) {
            int at = from;
            for (int step = 0; step < i; step++) {
                at = nextStop(land, at, to);
            }
            return at;
        }

        private int nextStop(Land land, int at, int to) {
            for (int next = 0; next < places; next++) {
                if (next != at && together(oneWay(land, at, next), lengthOf(next, to)) == lengthOf(at, to)) {
                    return next;
                }
            }
            return to;
        }

        int tripOf(Land land, int home) {
            int all = 0;
            for (int place = 0; place < places; place++) {
                if (land.errands[place] > 0) {
                    int once = together(farOf(home, place), farOf(place, home));
                    if (once == NO_LENGTH) {
                        return NO_LENGTH;
                    }
                    all += land.errands[place] * once;
                }
            }
            return all;
        }

        /** LIVE, or -1 if there is none. */
        int homeOf(Land land) {
            int home = -1;
            int least = NO_LENGTH;
            for (int place = 0; place < places; place++) {
                int all = tripOf(land, place);
                if (all < least) {
                    home = place;
                    least = all;
                }
            }
            return home;
        }

        int leastTrip(Land land) {
            int home = homeOf(land);
            return home < 0 ? NO_LENGTH : tripOf(land, home);
        }

        /** Where two meet best, or -1 if they can't. */
        int meetingOf(int one, int other, int what) {
            int where = -1;
            int least = NO_LENGTH;
            for (int place = 0; place < places; place++) {
                int price = priceOf(one, other, place, what);
                if (price < least) {
                    where = place;
                    least = price;
                }
            }
            return where;
        }

        int priceOf(int one, int other, int where, int what) {
            int first = farOf(one, where);
            int second = farOf(other, where);
            if (what == 1) {
                return Math.max(first, second);
            }
            int there = together(first, second);
            return what == 0 ? there : together(there, together(farOf(where, one), farOf(where, other)));
        }

        /**
         * Becomes that atlas with two PLACES MENDED: only one WAY gets less, so each length is
         * as it was, or goes once by that WAY. False if there is a LOOP then.
         */
        boolean mendFrom(Atlas now, Land land, int one, int other) {
            boolean isSecondLonger = land.lowOf(one, other) <= land.lowOf(other, one);
            int from = isSecondLonger ? other : one;
            int to = isSecondLonger ? one : other;
            int mendedWay = oneWay(land, to, from);
            if (together(mendedWay, now.lengthOf(to, from)) < 0) {
                return false;
            }
            places = now.places;
            for (int start = 0; start < places; start++) {
                int head = together(now.lengthOf(start, from), mendedWay);
                for (int end = 0; end < places; end++) {
                    int length = together(head, now.lengthOf(to, end));
                    lengths[MOST_PLACES * start + end] = Math.min(length, now.lengthOf(start, end));
                }
            }
            return true;
        }
    }

    /** SUMS of ROUNDS; NO_LENGTH where something that is needed is not there. */
    private static final class Sums {
        private static final int GREATER_ONE = 1;

        /** By set of stops that are behind one, and the latest of them. */
        private final int[] least = new int[(1 << MOST_STOPS) * MOST_STOPS];

        int sumOf(Land land, Atlas atlas, int round) {
            switch (land.kinds[round]) {
                case ROUND:
                    return roundSum(land.rounds, atlas, round);
                case TOLD:
                    return toldSum(land, round, false);
                case TURN:
                    return toldSum(land, round, true);
                case BEST:
                    return bestSum(land.rounds, atlas, round, true);
                case RACE:
                    return bestSum(land.rounds, atlas, round, false);
                case MEET:
                    return meetSum(land, atlas, round);
                case PAIRS:
                    return pairsSum(land.rounds, atlas, round);
                default:
                    return NO_LENGTH;
            }
        }

        private static int stopBehind(Rows rows, int row, int i) {
            return rows.stop(row, i + 1 < rows.lengths[row] ? i + 1 : 0);
        }

        private static int roundSum(Rows rows, Atlas atlas, int row) {
            int all = 0;
            for (int i = 0; i < rows.lengths[row]; i++) {
                all = together(all, atlas.farOf(rows.stop(row, i), stopBehind(rows, row, i)));
            }
            return all;
        }

        private static int toldSum(Land land, int round, boolean isTurned) {
            int all = 0;
            for (int i = 0; i < land.rounds.lengths[round]; i++) {
                int stop = land.rounds.stop(round, i);
                int next = stopBehind(land.rounds, round, i);
                all = together(all, isTurned ? toldWay(land, next, stop) : toldWay(land, stop, next));
            }
            return all;
        }

        private static int toldWay(Land land, int from, int to) {
            if (from == to) {
                return 0;
            }
            return land.isOpen(from, to) ? land.lowOf(from, to) : NO_LENGTH;
        }

        private static int meetSum(Land land, Atlas atlas, int round) {
            int first = land.rounds.stop(round, 0);
            int last = land.rounds.lastStop(round);
            int where = atlas.meetingOf(first, last, GREATER_ONE);
            return where < 0 ? NO_LENGTH : atlas.priceOf(first, last, where, GREATER_ONE);
        }

        private static int pairsSum(Rows rows, Atlas atlas, int row) {
            int all = 0;
            for (int i = 0; i + 1 < rows.lengths[row]; i++) {
                int stop = rows.stop(row, i);
                int next = rows.stop(row, i + 1);
                all = together(all, together(atlas.farOf(stop, next), atlas.farOf(next, stop)));
            }
            return all;
        }

        private int bestSum(Rows rows, Atlas atlas, int row, boolean isHome) {
            int stops = rows.lengths[row];
            orderStops(rows, atlas, row);
            int best = NO_LENGTH;
            for (int last = 0; last < stops; last++) {
                int all = least[((1 << stops) - 1) * MOST_STOPS + last];
                if (isHome) {
                    all = together(all, atlas.farOf(rows.stop(row, last), rows.stop(row, 0)));
                }
                best = Math.min(best, all);
            }
            return best;
        }

        private void orderStops(Rows rows, Atlas atlas, int row) {
            int sets = 1 << rows.lengths[row];
            for (int i = 0; i < sets * MOST_STOPS; i++) {
                least[i] = NO_LENGTH;
            }
            least[MOST_STOPS] = 0;
            for (int set = 1; set < sets; set++) {
                for (int last = 0; last < rows.lengths[row]; last++) {
                    if (least[set * MOST_STOPS + last] != NO_LENGTH) {
                        goOnFrom(rows, atlas, row, set, last);
                    }
                }
            }
        }

        private void goOnFrom(Rows rows, Atlas atlas, int row, int set, int last) {
            int behind = least[set * MOST_STOPS + last];
            for (int next = 0; next < rows.lengths[row]; next++) {
                if ((set & (1 << next)) == 0) {
                    int all = together(behind, atlas.farOf(rows.stop(row, last), rows.stop(row, next)));
                    int slot = (set | (1 << next)) * MOST_STOPS + next;
                    least[slot] = Math.min(least[slot], all);
                }
            }
        }
    }

    /** HEIGHTS and PAPER. */
    private static final class Slopes {
        final int[] heights = new int[MOST_PLACES];
        private final boolean[] isClimbed = new boolean[MOST_PLACES];
        private final int[] queue = new int[MOST_PLACES];

        /** Fills heights; they are true if they FIT. */
        void climb(Land land) {
            for (int place = 0; place < land.places; place++) {
                isClimbed[place] = false;
            }
            for (int place = 0; place < land.places; place++) {
                if (!isClimbed[place]) {
                    climbFrom(land, place);
                }
            }
        }

        private void climbFrom(Land land, int foot) {
            heights[foot] = 0;
            isClimbed[foot] = true;
            queue[0] = foot;
            int queued = 1;
            for (int i = 0; i < queued && i < MOST_PLACES; i++) {
                int at = queue[i];
                for (int to = 0; to < land.places; to++) {
                    if (!isClimbed[to] && land.areBothWays(at, to)) {
                        heights[to] = heights[at] + riseOf(land, at, to);
                        isClimbed[to] = true;
                        queue[queued] = to;
                        queued++;
                    }
                }
            }
        }

        boolean doFit(Land land) {
            for (int one = 0; one < land.places; one++) {
                for (int other = one + 1; other < land.places; other++) {
                    if (land.areBothWays(one, other) && heights[other] - heights[one] != riseOf(land, one, other)) {
                        return false;
                    }
                }
            }
            return true;
        }

        private static int riseOf(Land land, int one, int other) {
            return land.lowOf(one, other) - land.lowOf(other, one);
        }

        static int paperOf(Land land, int one, int other) {
            return (land.lowOf(one, other) + land.lowOf(other, one)) / 2;
        }

        /** WORST, or -1 if no two have WAYS both ways. */
        static int mostOffPaper(Land land) {
            int most = -1;
            for (int from = 0; from < land.places; from++) {
                for (int to = 0; to < land.places; to++) {
                    if (from != to && land.areBothWays(from, to)) {
                        most = Math.max(most, Math.abs(land.lowOf(from, to) - paperOf(land, from, to)));
                    }
                }
            }
            return most;
        }
    }

    /** TO LEARN from WALKS. */
    private static final class Learner {
        private static final int MOST_LEARNING = 50;

        /** The set of WALKS that LIED when one learnt latest. */
        int liars = 0;
        private boolean isChanged = false;

        int learnIn(Land land) {
            liars = 0;
            int changes = 0;
            for (int round = 0; round < MOST_LEARNING; round++) {
                isChanged = false;
                for (int walk = 0; walk < land.walks.count; walk++) {
                    if (!isBelieved(land, walk)) {
                        liars |= 1 << walk;
                    }
                }
                if (!isChanged) {
                    return changes;
                }
                changes++;
            }
            return changes;
        }

        private boolean isBelieved(Land land, int walk) {
            int ways = land.walks.lengths[walk] - 1;
            for (int i = 0; i < ways; i++) {
                if (!land.isThere(land.walks.stop(walk, i), land.walks.stop(walk, i + 1))) {
                    return false;
                }
            }
            for (int i = 0; i < ways; i++) {
                if (!narrow(land, walk, i)) {
                    return false;
                }
            }
            return true;
        }

        private static int wayOn(Land land, int walk, int i) {
            return Land.wayAt(land.walks.stop(walk, i), land.walks.stop(walk, i + 1));
        }

        /** False if the WALK LIES by its i-th WAY, which then stays as it is. */
        private boolean narrow(Land land, int walk, int i) {
            int way = wayOn(land, walk, i);
            int times = 0;
            int lows = 0;
            int highs = 0;
            for (int k = 0; k < land.walks.lengths[walk] - 1; k++) {
                int other = wayOn(land, walk, k);
                if (other == way) {
                    times++;
                } else {
                    lows += land.low[other];
                    highs += land.high[other];
                }
            }
            if (times > 1) {
                return true;
            }
            int high = Math.min(land.high[way], land.totals[walk] + land.slacks[walk] - lows);
            int low = Math.max(land.low[way], land.totals[walk] - land.slacks[walk] - highs);
            if (!areEnds(low, high)) {
                return false;
            }
            if (low != land.low[way] || high != land.high[way]) {
                land.low[way] = low;
                land.high[way] = high;
                isChanged = true;
            }
            return true;
        }
    }

    /** THE TAPE, and THE TEXT of a LAND on it. */
    private static final class Text {
        private static final int END = 0;
        private static final int WORD = 1;
        private static final int NUMBER = 2;
        private static final int SEMICOLON = 3;
        private static final int MINUS = 4;
        private static final int STRANGE = 5;
        private static final int MOST_NUMBER = 9999;

        int size = 0;
        private final int[] bytes = new int[MOST_BYTES];
        /** The TOKEN that one reads: what it is, where it begins, where the next may begin. */
        private int token = END;
        private int start = 0;
        private int next = 0;
        /** Of a NUMBER; of one that is too great: 1 more than the greatest. */
        private int value = 0;
        /** The latest NUMBER or MILE that was taken. */
        private int taken = 0;

        void addByte(int b) {
            if (size < MOST_BYTES) {
                bytes[size] = b;
                size++;
            }
        }

        /** How many ITEMS came to the land; with a FAULT -1 less its place, and the land is spoilt. */
        int tellTo(Land land) {
            next = 0;
            step();
            for (int items = 1; items <= MOST_BYTES; items++) {
                if (!takeItem(land)) {
                    return -1 - start;
                }
                if (token == END) {
                    return items;
                }
                if (token != SEMICOLON) {
                    return -1 - start;
                }
                step();
            }
            return -1 - start;
        }

        /** Whoever can't take the TOKEN that stands there leaves it: so a FAULT is at its start. */
        private boolean takeItem(Land land) {
            if (isWord("place")) {
                return takePlace(land);
            }
            if (isWord("way")) {
                return takeWay(land);
            }
            return isWord("walk") && takeWalk(land);
        }

        private boolean takePlace(Land land) {
            if (land.places >= MOST_PLACES) {
                return false;
            }
            step();
            int errands = 0;
            if (takeWord("errands")) {
                if (!takeNumber(MOST_ERRANDS)) {
                    return false;
                }
                errands = taken;
            }
            land.addPlace(errands);
            return true;
        }

        private boolean takeWay(Land land) {
            step();
            if (!takeNumber(land.places - 1)) {
                return false;
            }
            int from = taken;
            boolean isSame = token == NUMBER && value == from;
            if (isSame || !takeNumber(land.places - 1)) {
                return false;
            }
            int to = taken;
            if (!takeMile(LEAST_MILES, MOST_MILES)) {
                return false;
            }
            int low = taken;
            if (takeWord("to") && !takeMile(low, MOST_MILES)) {
                return false;
            }
            land.setWay(from, to, low, taken);
            return !takeWord("back") || takeWayBack(land, to, from);
        }

        private boolean takeWayBack(Land land, int from, int to) {
            if (!takeMile(LEAST_MILES, MOST_MILES)) {
                return false;
            }
            land.setWay(from, to, taken, taken);
            return true;
        }

        private boolean takeWalk(Land land) {
            if (land.walks.isFull()) {
                return false;
            }
            step();
            if (!takeNumber(land.places - 1)) {
                return false;
            }
            int walk = land.addWalk(taken, 0, 0);
            for (int stops = 1; stops < MOST_STOPS && token == NUMBER; stops++) {
                if (value == land.walks.lastStop(walk) || !takeNumber(land.places - 1)) {
                    return false;
                }
                land.walks.append(walk, taken);
            }
            if (land.walks.lengths[walk] < 2 || !takeWord("all") || !takeMile(-MOST_TOTAL, MOST_TOTAL)) {
                return false;
            }
            land.totals[walk] = taken;
            return !takeWord("slack") || takeSlack(land, walk);
        }

        private boolean takeSlack(Land land, int walk) {
            if (!takeNumber(MOST_SLACK)) {
                return false;
            }
            land.slacks[walk] = taken;
            return true;
        }

        private boolean takeWord(String word) {
            if (!isWord(word)) {
                return false;
            }
            step();
            return true;
        }

        private boolean takeNumber(int most) {
            if (token != NUMBER || value > most) {
                return false;
            }
            taken = value;
            step();
            return true;
        }

        private boolean takeMile(int least, int most) {
            boolean isBelow = token == MINUS;
            if (isBelow) {
                step();
            }
            int mile = isBelow ? -value : value;
            if (token != NUMBER || mile < least || mile > most) {
                return false;
            }
            taken = mile;
            step();
            return true;
        }

        private boolean isWord(String word) {
            if (token != WORD || next - start != word.length()) {
                return false;
            }
            for (int i = 0; i < word.length(); i++) {
                if (bytes[start + i] != word.charAt(i)) {
                    return false;
                }
            }
            return true;
        }

        private void step() {
            int at = next;
            while (at < size && bytes[at] == ' ') {
                at++;
            }
            start = at;
            token = kindAt(at);
            value = 0;
            boolean isLong = token == WORD || token == NUMBER;
            while (at < size && kindAt(at) == token && (at == start || isLong)) {
                if (token == NUMBER) {
                    value = Math.min(10 * value + bytes[at] - '0', MOST_NUMBER + 1);
                }
                at++;
            }
            next = at;
        }

        private int kindAt(int at) {
            if (at >= size) {
                return END;
            }
            int b = bytes[at];
            if (b >= 'a' && b <= 'z') {
                return WORD;
            }
            if (b >= '0' && b <= '9') {
                return NUMBER;
            }
            if (b == ';') {
                return SEMICOLON;
            }
            return b == '-' ? MINUS : STRANGE;
        }
    }

    /** A row of numbers of some bits; of 0 bits it is MISSING. */
    private static final class Sheet {
        int bits = 0;
        int size = 0;
        final long[] numbers = new long[MOST_NUMBERS];

        boolean isMissing() {
            return bits == 0;
        }

        void begin(int newBits, int newSize) {
            bits = newBits;
            size = newSize;
            for (int i = 0; i < MOST_NUMBERS; i++) {
                numbers[i] = 0;
            }
        }

        long lowestBits(long v) {
            if (bits == 8) {
                return (byte) v;
            }
            return bits == 16 ? (short) v : v;
        }

        boolean hasSpan(int from, int n) {
            return from >= 0 && n >= 0 && n <= size && from <= size - n;
        }
    }
}
