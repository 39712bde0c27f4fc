import java.util.Arrays;

/**
 * Two halls: jobs pressed in one hall, brought over, pressed in another one.
 *
 * Words in capitals are those of the document. All rows are made with the object and used again, so that no call
 * makes anything: many calls share one small room.
 */
public final class PressHalls {
    public static final int NONE = -1, BAD = -2, STATE = -3, FULL = -4;
    public static final long NO = Long.MIN_VALUE;

    private static final int NOTHING = -11, CAST = -12, PLACE = -13, SIZE = -14;
    private static final int NO_SUCH_ROW = -5, ROW_TOO_SHORT = 100, FAULT_AT_START = -10;
    private static final int FORGET = -1;

    private static final int A = 0, M = 1, B = 2, CLEANING_FIRST = 3, CLEANING_SECOND = 4, DUE = 5, VALUES = 6;
    private static final int OWN_PLACE = 6;
    private static final int[] MOST_OF_VALUE = {30, 30, 30, 9, 9, 99};
    private static final int MOST_JOBS = 6, MOST_HOURS = 30, ODDS_HOURS = 10, MOST_STEPS = 100;
    private static final int MOST_SEEN = 5, MOST_EVENTS = 8, MOST_BOOKED = 8;

    private static final int ROOM = 1, BLOCK = 2, MODES = 3;
    private static final int END = 0, FLOW = 1, AIMS = 3;
    private static final int LISTS = 1, SHORT = 2, URGENT = 3, RULES = 4;
    private static final int FIRST = 0, FAR = 2, MANNERS = 3;
    private static final int LATENESS = 6, TIMES = 7;
    private static final int A_LONGER = 0, B_LONGER = 1, OTHER_MODE = 2, NO_WAY = 3;

    private static final int TAPES = 6;

    // No time, sum of times or lateness comes near to it.
    private static final int ABOVE_ALL = 1_000_000;

    private final Shop now = new Shop();
    private final Rows seenRows = new Rows(MOST_SEEN);
    private final Rows eventRows = new Rows(MOST_EVENTS);
    private final Rows bookRows = new Rows(MOST_BOOKED);

    private final Shop imaged = new Shop();
    private final Rows imagedSeen = new Rows(MOST_SEEN);
    private final Rows imagedEvents = new Rows(MOST_EVENTS);
    private final Rows imagedBook = new Rows(MOST_BOOKED);
    private boolean hasImage;

    private final Shop trial = new Shop();
    private final int[] trialOrder = new int[MOST_JOBS];
    private final Halls halls = new Halls();
    private final Search search = new Search();
    private final Text text = new Text();
    private final Tape[] tapes = new Tape[TAPES];

    public PressHalls() {
        for (int i = 0; i < TAPES; i++) {
            tapes[i] = new Tape();
        }
    }

    // ---- jobs

    public int job(int a, int m, int b) {
        if (!isWithin(a, A) || !isWithin(m, M) || !isWithin(b, B)) {
            return BAD;
        }
        return now.jobs >= MOST_JOBS ? FULL : now.addJob(a, m, b);
    }

    public int renew(int job, int what, int v) {
        if (!now.hasJob(job) || !isBelow(what, VALUES)) {
            return NONE;
        }
        if (!isWithin(v, what)) {
            return BAD;
        }
        int before = now.values[job][what];
        now.values[job][what] = v;
        return before;
    }

    public int of(int job, int what) {
        if (!now.hasJob(job)) {
            return NONE;
        }
        if (what == OWN_PLACE) {
            return now.placeOf(job);
        }
        return isBelow(what, VALUES) ? now.values[job][what] : NONE;
    }

    public int set(int what, int v) {
        if (!isBelow(what, 2)) {
            return NONE;
        }
        if (!isBelow(v, what == 0 ? MODES : AIMS)) {
            return BAD;
        }
        int before = what == 0 ? now.mode : now.aim;
        if (what == 0) {
            now.mode = v;
        } else {
            now.aim = v;
        }
        return before;
    }

    public int feed(int sign) {
        if (!isBelow(sign, 128)) {
            return BAD;
        }
        return text.append(sign) ? text.length : FULL;
    }

    public int read() {
        boolean sound = text.parse();
        int fault = text.next;
        text.length = 0;
        if (!sound) {
            return FAULT_AT_START - fault;
        }
        int carriedOut = 0;
        for (int i = 0; i < text.clauses; i++) {
            if (carryOut(text.clause[i])) {
                carriedOut++;
            }
        }
        return carriedOut;
    }

    /** A clause keeps to the very limits of the calls, so it is told as a call; whether that was taken. */
    private boolean carryOut(int[] clause) {
        switch (clause[0]) {
            case 'j':
                return job(clause[1], clause[2], clause[3]) >= 0;
            case 'c':
                return renew(clause[1], CLEANING_FIRST, clause[2]) >= 0
                        && renew(clause[1], CLEANING_SECOND, clause[3]) >= 0;
            case 'd':
                return renew(clause[1], DUE, clause[2]) >= 0;
            case 'm':
                return set(0, clause[1]) >= 0;
            default:
                return set(1, clause[1]) >= 0;
        }
    }

    // ---- the plan

    public int plan(int rule) {
        if (!isBelow(rule, RULES)) {
            return BAD;
        }
        if (now.jobs == 0) {
            return STATE;
        }
        now.orderBy(rule, trialOrder);
        int elsewhere = 0;
        for (int place = 0; place < now.jobs; place++) {
            if (trialOrder[place] != now.order[place]) {
                elsewhere++;
            }
            now.order[place] = trialOrder[place];
        }
        return elsewhere;
    }

    public int move(int job, int place) {
        if (!now.hasJob(job)) {
            return NONE;
        }
        if (!isBelow(place, now.jobs)) {
            return BAD;
        }
        int before = now.placeOf(job);
        now.shiftJob(now.order, before, place);
        return before;
    }

    public int swap(int k) {
        if (!isPair(k)) {
            return NONE;
        }
        now.shiftJob(now.order, k, k + 1);
        return now.order[k];
    }

    public int step(int manner, int n) {
        if (!isBelow(manner, MANNERS) || n < 0 || n > MOST_STEPS) {
            return BAD;
        }
        if (now.jobs == 0) {
            return STATE;
        }
        int steps = 0;
        while (steps < n && takeStep(manner)) {
            steps++;
        }
        return steps;
    }

    /** An exchange of neighbours is a move by one place, so all manners look at moves; whether one made it less. */
    private boolean takeStep(int manner) {
        int least = planCost();
        int from = 0;
        int to = 0;
        boolean found = false;
        for (int k = 0; k < now.jobs && !(found && manner == FIRST); k++) {
            for (int l = 0; l < now.jobs; l++) {
                boolean offered = manner == FAR || l == k + 1;
                int moved = offered ? movedCost(k, l) : least;
                if (moved < least) {
                    least = moved;
                    from = k;
                    to = l;
                    found = true;
                }
            }
        }
        if (found) {
            now.shiftJob(now.order, from, to);
        }
        return found;
    }

    public int at(int place) {
        return isBelow(place, now.jobs) ? now.order[place] : NONE;
    }

    public long time(int job, int what) {
        if (!now.hasJob(job) || !isBelow(what, TIMES)) {
            return NO;
        }
        pressPlanUpTo(now.placeOf(job));
        return what == LATENESS ? halls.ends - now.values[job][DUE] : halls.timeOfLast(what);
    }

    public long told(int what) {
        switch (what) {
            case 0:
                return now.jobs;
            case 1:
                return now.mode;
            case 2:
                return now.aim;
            default:
                return now.jobs == 0 ? NO : toldOfJobs(what);
        }
    }

    private long toldOfJobs(int what) {
        switch (what) {
            case 3:
                return planCost();
            case 4:
                return costOf(now, now.order, now.mode, END);
            case 5:
                return now.bound();
            case 6:
                return waited();
            case 7:
                return turn();
            case 8:
                return exchanges(true);
            case 9:
                return exchanges(false);
            case 10:
                return exchanges(true) == 0 ? 1 : 0;
            case 11:
                return now.isEasy() ? 1 : 0;
            case 12:
                return now.firstListSize();
            default:
                return NO;
        }
    }

    private int waited() {
        int rest = costOf(now, now.order, now.mode, END);
        for (int place = 0; place < now.jobs; place++) {
            int[] values = now.values[now.order[place]];
            rest -= values[B];
            if (place < now.jobs - 1) {
                rest -= values[CLEANING_SECOND];
            }
        }
        return rest;
    }

    private int turn() {
        int last = NONE;
        halls.open();
        for (int place = 0; place < now.jobs; place++) {
            int job = now.order[place];
            halls.press(now.values[job], now.mode);
            if (halls.beginsAgain == halls.arrives) {
                last = job;
            }
        }
        return last;
    }

    /** How many exchanges of neighbours make COST less, or else leave it. */
    private int exchanges(boolean less) {
        int before = planCost();
        int found = 0;
        for (int k = 0; k + 1 < now.jobs; k++) {
            int moved = movedCost(k, k + 1);
            if (less ? moved < before : moved == before) {
                found++;
            }
        }
        return found;
    }

    public long would(int k) {
        return isPair(k) ? movedCost(k, k + 1) : NO;
    }

    public int ruled(int rule, int place) {
        if (!isBelow(rule, RULES) || !isBelow(place, now.jobs)) {
            return NONE;
        }
        now.orderBy(rule, trialOrder);
        return trialOrder[place];
    }

    public long cost(int rule, int mode, int aim) {
        if (!isBelow(rule, RULES) || !isGoal(mode, aim) || now.jobs == 0) {
            return NO;
        }
        now.orderBy(rule, trialOrder);
        return costOf(now, trialOrder, mode, aim);
    }

    // ---- the best

    public long least(int mode, int aim) {
        if (!isGoal(mode, aim) || now.jobs == 0) {
            return NO;
        }
        search.find(now, mode, aim);
        return search.least;
    }

    public int best(int mode, int aim, int place) {
        if (!isGoal(mode, aim)) {
            return BAD;
        }
        if (!isBelow(place, now.jobs)) {
            return NONE;
        }
        search.find(now, mode, aim);
        return search.found[place];
    }

    public int slack(int job) {
        if (!now.hasJob(job)) {
            return NONE;
        }
        trial.copyFrom(now);
        for (int more = 1; more <= MOST_HOURS; more++) {
            trial.values[job][A] = now.values[job][A] + more;
            if (!isListedAlike()) {
                return more - 1;
            }
        }
        return MOST_HOURS;
    }

    private boolean isListedAlike() {
        for (int job = 0; job < now.jobs; job++) {
            if (now.placeBy(LISTS, job) != trial.placeBy(LISTS, job)) {
                return false;
            }
        }
        return true;
    }

    // ---- seen, odds

    public int see(int job, int place) {
        return noteIn(seenRows, job, place);
    }

    /** A row of a JOB and a place; the places go to 5 even if there are fewer JOBS. */
    private int noteIn(Rows rows, int job, int place) {
        if (job == FORGET) {
            rows.size = 0;
            return 0;
        }
        if (!now.hasJob(job)) {
            return NONE;
        }
        if (!isBelow(place, MOST_JOBS)) {
            return BAD;
        }
        return rows.add(job, place) ? rows.size : FULL;
    }

    public int fits(int job, int what) {
        if (!now.hasJob(job) || !isBelow(what, 2)) {
            return NONE;
        }
        trial.copyFrom(now);
        int many = 0;
        int leastHours = NO_SUCH_ROW;
        for (int hours = MOST_HOURS; hours >= 0; hours--) {
            trial.values[job][A] = hours;
            if (isAsSeen()) {
                many++;
                leastHours = hours;
            }
        }
        return what == 0 ? many : leastHours;
    }

    private boolean isAsSeen() {
        for (int i = 0; i < seenRows.size; i++) {
            if (trial.placeBy(LISTS, seenRows.left[i]) != seenRows.right[i]) {
                return false;
            }
        }
        return true;
    }

    public long odds(int job, int part) {
        if (!now.hasJob(job) || !isBelow(part, 2)) {
            return NO;
        }
        trial.copyFrom(now);
        int ahead = 0;
        for (int hours = 0; hours < ODDS_HOURS; hours++) {
            trial.values[job][A] = hours;
            search.find(trial, now.mode, now.aim);
            if (search.found[0] == job) {
                ahead++;
            }
        }
        return partOfFraction(ahead, ODDS_HOURS, part);
    }

    public long mean(int part) {
        if (now.jobs == 0 || !isBelow(part, 2)) {
            return NO;
        }
        return partOfFraction(costOf(now, now.order, now.mode, FLOW), now.jobs, part);
    }

    /** What stands above (part 0) or below the line, in lowest terms; above is not below 0, below is above 0. */
    private static long partOfFraction(int above, int below, int part) {
        int divisor = below;
        int rest = above;
        // Euclid's way ends far sooner than 64 rounds for numbers of 32 bits.
        for (int i = 0; i < 64 && rest != 0; i++) {
            int next = divisor % rest;
            divisor = rest;
            rest = next;
        }
        if (divisor == 0) {
            return NO;
        }
        return (part == 0 ? above : below) / divisor;
    }

    // ---- events, books

    public int event(int what, int n) {
        if (what == FORGET) {
            eventRows.size = 0;
            return 0;
        }
        if (what < A_LONGER || what > NO_WAY) {
            return NONE;
        }
        if (what != OTHER_MODE && !now.hasJob(n)) {
            return NONE;
        }
        if (what == OTHER_MODE && !isBelow(n, MODES)) {
            return BAD;
        }
        return eventRows.add(what, n) ? eventRows.size : FULL;
    }

    public long after(int what) {
        if (!isBelow(what, 2) || now.jobs == 0) {
            return NO;
        }
        trial.copyFrom(now);
        for (int i = 0; i < eventRows.size; i++) {
            happen(eventRows.left[i], eventRows.right[i]);
        }
        if (what == 0) {
            return costOf(trial, trial.order, trial.mode, trial.aim);
        }
        search.find(trial, trial.mode, trial.aim);
        return search.least;
    }

    private void happen(int what, int n) {
        if (what == OTHER_MODE) {
            trial.mode = n;
            return;
        }
        if (!trial.hasJob(n)) {
            return;
        }
        int[] values = trial.values[n];
        if (what == A_LONGER) {
            values[A] = Math.min(values[A] + 1, MOST_HOURS);
        } else if (what == B_LONGER) {
            values[B] = Math.min(values[B] + 1, MOST_HOURS);
        } else {
            values[M] = 0;
        }
    }

    public int book(int job, int place) {
        return noteIn(bookRows, job, place);
    }

    public int looked() {
        for (int i = 0; i < bookRows.size; i++) {
            if (at(bookRows.right[i]) != bookRows.left[i]) {
                return i;
            }
        }
        return NO_SUCH_ROW;
    }

    // ---- judging, the image, tapes

    public int judge(int tape, int i) {
        if (!isBelow(tape, TAPES)) {
            return NONE;
        }
        Tape row = tapes[tape];
        if (row.sort != Tape.EMPTY && row.sort != Tape.SHORTS) {
            return CAST;
        }
        if (now.jobs == 0) {
            return NO_SUCH_ROW;
        }
        if (!row.hasItem(i)) {
            return ROW_TOO_SHORT;
        }
        return firstOtherEnd(row, i);
    }

    private int firstOtherEnd(Tape row, int i) {
        halls.open();
        for (int place = 0; place < now.jobs; place++) {
            if (!row.hasItem(i + place)) {
                return ROW_TOO_SHORT + place;
            }
            halls.press(now.values[now.order[place]], now.mode);
            if (row.items[i + place] != halls.ends) {
                return place;
            }
        }
        return NO_SUCH_ROW;
    }

    public int image() {
        imaged.copyFrom(now);
        imagedSeen.copyFrom(seenRows);
        imagedEvents.copyFrom(eventRows);
        imagedBook.copyFrom(bookRows);
        hasImage = true;
        return now.jobs;
    }

    public int undo() {
        if (!hasImage) {
            return STATE;
        }
        now.copyFrom(imaged);
        seenRows.copyFrom(imagedSeen);
        eventRows.copyFrom(imagedEvents);
        bookRows.copyFrom(imagedBook);
        return now.jobs;
    }

    public int count(int what) {
        switch (what) {
            case 0:
                return now.jobs;
            case 1:
                return seenRows.size;
            case 2:
                return eventRows.size;
            case 3:
                return bookRows.size;
            case 4:
                return text.length;
            default:
                return BAD;
        }
    }

    public int tape(int tape, int sort, int n) {
        if (!isBelow(tape, TAPES)) {
            return NONE;
        }
        if (sort == Tape.EMPTY) {
            tapes[tape].become(Tape.EMPTY, 0);
            return 1;
        }
        if (!isBelow(sort, Tape.SORTS) || n > Tape.MOST_ITEMS) {
            return BAD;
        }
        if (n < 0) {
            return SIZE;
        }
        tapes[tape].become(sort, n);
        return 1;
    }

    public int item(int tape, int i, long v) {
        if (!isBelow(tape, TAPES)) {
            return NONE;
        }
        Tape row = tapes[tape];
        if (row.sort == Tape.EMPTY) {
            return NOTHING;
        }
        if (!row.hasItem(i)) {
            return PLACE;
        }
        row.items[i] = row.fitted(v);
        return 1;
    }

    public long peek(int tape, int i) {
        if (!isBelow(tape, TAPES) || !tapes[tape].hasItem(i)) {
            return NO;
        }
        return tapes[tape].items[i];
    }

    public int shift(int tape, int i, int other, int j, int n) {
        if (!isBelow(tape, TAPES) || !isBelow(other, TAPES)) {
            return NONE;
        }
        Tape from = tapes[tape];
        Tape to = tapes[other];
        if (from.sort == Tape.EMPTY || to.sort == Tape.EMPTY) {
            return NOTHING;
        }
        if (from.sort != to.sort) {
            return CAST;
        }
        if (!from.hasRun(i, n) || !to.hasRun(j, n)) {
            return PLACE;
        }
        System.arraycopy(from.items, i, to.items, j, n);
        return n;
    }

    // ---- what several of these need

    private static boolean isBelow(int number, int bound) {
        return number >= 0 && number < bound;
    }

    private static boolean isWithin(int v, int what) {
        return v >= 0 && v <= MOST_OF_VALUE[what];
    }

    private static boolean isGoal(int mode, int aim) {
        return isBelow(mode, MODES) && isBelow(aim, AIMS);
    }

    /** Looked at without k + 1, which would wrap around for the greatest k. */
    private boolean isPair(int k) {
        return k >= 0 && k < now.jobs - 1;
    }

    private void pressPlanUpTo(int lastPlace) {
        halls.open();
        for (int place = 0; place <= lastPlace && place < now.jobs; place++) {
            halls.press(now.values[now.order[place]], now.mode);
        }
    }

    private int costOf(Shop shop, int[] order, int mode, int aim) {
        halls.open();
        for (int place = 0; place < shop.jobs; place++) {
            halls.press(shop.values[order[place]], mode);
        }
        return halls.costBy(aim);
    }

    private int planCost() {
        return costOf(now, now.order, now.mode, now.aim);
    }

    /** COST of the PLAN, were the JOB at place k at place l. */
    private int movedCost(int k, int l) {
        System.arraycopy(now.order, 0, trialOrder, 0, MOST_JOBS);
        now.shiftJob(trialOrder, k, l);
        return costOf(now, trialOrder, now.mode, now.aim);
    }

    /** JOBS, MODE, AIM and the PLAN; a question that asks "were it so" tries on a copy. */
    private static final class Shop {
        int jobs, mode, aim;
        final int[][] values = new int[MOST_JOBS][VALUES];
        final int[] order = new int[MOST_JOBS];

        // Jobs of the second list stand behind all of the first: no A and M together reach this, even by SLACK.
        static final int SECOND_LIST = 1000;

        void copyFrom(Shop other) {
            jobs = other.jobs;
            mode = other.mode;
            aim = other.aim;
            System.arraycopy(other.order, 0, order, 0, MOST_JOBS);
            for (int job = 0; job < MOST_JOBS; job++) {
                System.arraycopy(other.values[job], 0, values[job], 0, VALUES);
            }
        }

        boolean hasJob(int job) {
            return job >= 0 && job < jobs;
        }

        /** The caller has looked whether there is room. */
        int addJob(int a, int m, int b) {
            int[] fresh = values[jobs];
            fresh[A] = a;
            fresh[M] = m;
            fresh[B] = b;
            fresh[CLEANING_FIRST] = 0;
            fresh[CLEANING_SECOND] = 0;
            fresh[DUE] = MOST_OF_VALUE[DUE];
            order[jobs] = jobs;
            jobs++;
            return jobs - 1;
        }

        int placeOf(int job) {
            for (int place = 0; place < jobs; place++) {
                if (order[place] == job) {
                    return place;
                }
            }
            return NONE;
        }

        /** The JOB at place from of such an order comes to place to; the others keep their order. */
        void shiftJob(int[] row, int from, int to) {
            if (!hasJob(from) || !hasJob(to)) {
                return;
            }
            int moved = row[from];
            for (int place = from; place < to; place++) {
                row[place] = row[place + 1];
            }
            for (int place = from; place > to; place--) {
                row[place] = row[place - 1];
            }
            row[to] = moved;
        }

        void orderBy(int rule, int[] row) {
            for (int job = 0; job < jobs; job++) {
                row[placeBy(rule, job)] = job;
            }
        }

        /** How many others stand ahead by the rule; of equal ones those of less number do. */
        int placeBy(int rule, int job) {
            int own = keyOf(rule, job);
            int ahead = 0;
            for (int other = 0; other < jobs; other++) {
                int key = keyOf(rule, other);
                if (key < own || key == own && other < job) {
                    ahead++;
                }
            }
            return ahead;
        }

        int keyOf(int rule, int job) {
            int[] v = values[job];
            switch (rule) {
                case LISTS:
                    return v[A] <= v[B] ? v[A] + v[M] : SECOND_LIST - v[M] - v[B];
                case SHORT:
                    return v[A] + v[M] + v[B];
                case URGENT:
                    return v[DUE];
                default:
                    return job;
            }
        }

        int bound() {
            int allA = 0;
            int allB = 0;
            int leastBehindA = ABOVE_ALL;
            int leastAheadOfB = ABOVE_ALL;
            for (int job = 0; job < jobs; job++) {
                int[] v = values[job];
                allA += v[A];
                allB += v[B];
                leastBehindA = Math.min(leastBehindA, v[M] + v[B]);
                leastAheadOfB = Math.min(leastAheadOfB, v[A] + v[M]);
            }
            return Math.max(allA + leastBehindA, allB + leastAheadOfB);
        }

        boolean isEasy() {
            int leastA = MOST_HOURS;
            int leastB = MOST_HOURS;
            int greatestM = 0;
            for (int job = 0; job < jobs; job++) {
                int[] v = values[job];
                leastA = Math.min(leastA, v[A]);
                leastB = Math.min(leastB, v[B]);
                greatestM = Math.max(greatestM, v[M]);
            }
            return greatestM <= leastA || greatestM <= leastB;
        }

        int firstListSize() {
            int size = 0;
            for (int job = 0; job < jobs; job++) {
                if (values[job][A] <= values[job][B]) {
                    size++;
                }
            }
            return size;
        }
    }

    /** The halls behind some JOBS of an order: TIMES of the last of them, COST of them all. */
    private static final class Halls {
        int firstFree, secondFree;
        int begins, done, leaves, arrives, beginsAgain, ends;
        int flow, late;

        void open() {
            firstFree = 0;
            secondFree = 0;
            arrives = 0;
            ends = 0;
            flow = 0;
            late = -ABOVE_ALL;
        }

        void press(int[] v, int mode) {
            begins = firstFree;
            done = begins + v[A];
            // Until here, arrives is that of the JOB ahead: by ROOM the way holds one at a time.
            int setsOut = mode == ROOM ? Math.max(done, arrives) : done;
            arrives = setsOut + v[M];
            beginsAgain = Math.max(arrives, secondFree);
            ends = beginsAgain + v[B];
            leaves = mode == BLOCK ? beginsAgain - v[M] : done;
            firstFree = leaves + v[CLEANING_FIRST];
            secondFree = ends + v[CLEANING_SECOND];
            flow += ends;
            late = Math.max(late, ends - v[DUE]);
        }

        /** None ENDS ahead of the one before it, so the last of them is the latest. */
        int costBy(int aim) {
            if (aim == END) {
                return ends;
            }
            return aim == FLOW ? flow : late;
        }

        int timeOfLast(int what) {
            switch (what) {
                case 0:
                    return begins;
                case 1:
                    return done;
                case 2:
                    return leaves;
                case 3:
                    return arrives;
                case 4:
                    return beginsAgain;
                default:
                    return ends;
            }
        }

        /** What the next JOB needs; the other times are made anew by it. */
        void goOnFrom(Halls other) {
            firstFree = other.firstFree;
            secondFree = other.secondFree;
            arrives = other.arrives;
            flow = other.flow;
            late = other.late;
        }
    }

    /** BEST of all orders, looked at from the least JOB on, so that the first of several of least COST is kept. */
    private static final class Search {
        final Halls[] behind = new Halls[MOST_JOBS + 1];
        final int[] tried = new int[MOST_JOBS];
        final int[] found = new int[MOST_JOBS];
        final boolean[] used = new boolean[MOST_JOBS];
        int least, mode, aim;

        Search() {
            for (int i = 0; i <= MOST_JOBS; i++) {
                behind[i] = new Halls();
            }
        }

        void find(Shop shop, int byMode, int byAim) {
            mode = byMode;
            aim = byAim;
            least = ABOVE_ALL;
            behind[0].open();
            extend(this, shop, 0);
        }

        /** COST never falls by one JOB more, so what is not less already is left. */
        private static void extend(Search search, Shop shop, int depth) {
            if (depth >= shop.jobs || depth >= MOST_JOBS) {
                search.least = search.behind[depth].costBy(search.aim);
                System.arraycopy(search.tried, 0, search.found, 0, MOST_JOBS);
                return;
            }
            Halls next = search.behind[depth + 1];
            for (int job = 0; job < shop.jobs; job++) {
                if (!search.used[job]) {
                    next.goOnFrom(search.behind[depth]);
                    next.press(shop.values[job], search.mode);
                    if (next.costBy(search.aim) < search.least) {
                        search.used[job] = true;
                        search.tried[depth] = job;
                        extend(search, shop, depth + 1);
                        search.used[job] = false;
                    }
                }
            }
        }
    }

    /** Rows of two numbers told by hand: SEEN, EVENTS, the BOOK. */
    private static final class Rows {
        final int[] left;
        final int[] right;
        int size;

        Rows(int most) {
            left = new int[most];
            right = new int[most];
        }

        boolean add(int l, int r) {
            if (size >= left.length) {
                return false;
            }
            left[size] = l;
            right[size] = r;
            size++;
            return true;
        }

        /** Of rows made for as many. */
        void copyFrom(Rows other) {
            size = Math.min(other.size, left.length);
            System.arraycopy(other.left, 0, left, 0, size);
            System.arraycopy(other.right, 0, right, 0, size);
        }
    }

    /** THE TEXT and, behind parse, its CLAUSES: the letter, then the numbers. */
    private static final class Text {
        static final int MOST_BYTES = 100, MOST_CLAUSES = 12;

        final byte[] bytes = new byte[MOST_BYTES];
        final int[][] clause = new int[MOST_CLAUSES][4];
        int length, clauses, next;

        boolean append(int sign) {
            if (length >= MOST_BYTES) {
                return false;
            }
            bytes[length] = (byte) sign;
            length++;
            return true;
        }

        /** Whether it is a set-up; if it isn't, next is the FAULT. */
        boolean parse() {
            next = 0;
            clauses = 0;
            boolean more = true;
            while (more && clauses < MOST_CLAUSES) {
                if (!takeClause(clause[clauses])) {
                    return false;
                }
                clauses++;
                more = clauses < MOST_CLAUSES && takeSign(';');
            }
            return next == length;
        }

        boolean takeClause(int[] into) {
            if (next >= length) {
                return false;
            }
            into[0] = bytes[next];
            switch (into[0]) {
                case 'j':
                    next++;
                    return takeNumber(into, 1, 2) && takeSign(',') && takeNumber(into, 2, 2) && takeSign(',')
                            && takeNumber(into, 3, 2);
                case 'c':
                    next++;
                    return takeNumber(into, 1, 1) && takeNumber(into, 2, 1) && takeNumber(into, 3, 1);
                case 'd':
                    next++;
                    return takeNumber(into, 1, 1) && takeNumber(into, 2, 2);
                case 'm':
                case 'a':
                    next++;
                    return takeNumber(into, 1, 1);
                default:
                    return false;
            }
        }

        boolean takeSign(int sign) {
            if (next >= length || bytes[next] != sign) {
                return false;
            }
            next++;
            return true;
        }

        /** A number of one digit, or as many as there are up to most, as the clause's part. */
        boolean takeNumber(int[] into, int part, int most) {
            int digits = 0;
            int number = 0;
            while (digits < most && next < length && bytes[next] >= '0' && bytes[next] <= '9') {
                number = number * 10 + bytes[next] - '0';
                next++;
                digits++;
            }
            into[part] = number;
            return digits > 0;
        }
    }

    /** A row of a sort; its items are kept as longs, each fitted to the sort as it comes. */
    private static final class Tape {
        static final int EMPTY = -1, BYTES = 0, SHORTS = 1, INTS = 2, LONGS = 3, SORTS = 5;
        static final int MOST_ITEMS = 60;

        final long[] items = new long[MOST_ITEMS];
        int sort = EMPTY;
        int size;

        void become(int newSort, int newSize) {
            sort = newSort;
            size = newSize;
            Arrays.fill(items, 0L);
        }

        boolean hasItem(int i) {
            return i >= 0 && i < size;
        }

        /** Whether n items from i on are there, looked at without i + n, which may wrap around. */
        boolean hasRun(int i, int n) {
            return n >= 0 && i >= 0 && n <= size && i <= size - n;
        }

        long fitted(long v) {
            switch (sort) {
                case BYTES:
                    return (byte) v;
                case SHORTS:
                    return (short) v;
                case INTS:
                    return (int) v;
                case LONGS:
                    return v;
                default:
                    return v != 0 ? 1 : 0;
            }
        }
    }
}
