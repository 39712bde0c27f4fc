/**
 * Each promise of the document by hand. What is due was worked out on paper from the document's words, mostly for the
 * three jobs of small(): 0 (3, 2, 1), 1 (1, 4, 5), 2 (2, 0, 2).
 */
public final class PromiseTests {
    private static final long NO = Long.MIN_VALUE;
    private static final int NONE = -1, BAD = -2, STATE = -3, FULL = -4;
    private static final int NOTHING = -11, CAST = -12, PLACE = -13, SIZE = -14;
    private static final int LEAST = Integer.MIN_VALUE, MOST = Integer.MAX_VALUE;

    private static int promise = 0;
    private static int wrong = 0;
    private static int looked = 0;

    private static void due(String call, long got, long want) {
        looked++;
        if (got != want) {
            wrong++;
            System.out.println("promise " + promise + ": " + call + " answered " + got + ", due is " + want);
        }
    }

    private static PressHalls small() {
        PressHalls x = new PressHalls();
        x.job(3, 2, 1);
        x.job(1, 4, 5);
        x.job(2, 0, 2);
        return x;
    }

    private static PressHalls six() {
        PressHalls x = new PressHalls();
        for (int i = 0; i < 6; i++) x.job(i, i, i);
        return x;
    }

    private static void duePlan(PressHalls x, int... jobs) {
        for (int p = 0; p < jobs.length; p++) due("at(" + p + ")", x.at(p), jobs[p]);
    }

    private static void arrange(PressHalls x, int... jobs) {
        for (int p = 0; p < jobs.length; p++) x.move(jobs[p], p);
    }

    private static void dueTimes(PressHalls x, int job, long... times) {
        for (int w = 0; w < times.length; w++) due("time(" + job + ", " + w + ")", x.time(job, w), times[w]);
    }

    private static int readText(PressHalls x, String text) {
        for (char sign : text.toCharArray()) x.feed(sign);
        return x.read();
    }

    private static void dueRead(PressHalls x, String text, long want) {
        due("read() of " + text, readText(x, text), want);
        due("count(4) behind " + text, x.count(4), 0);
    }

    static void p01NewObject() {
        PressHalls x = new PressHalls();
        for (int what = 0; what < 5; what++) due("count", x.count(what), 0);
        for (int what = 0; what < 3; what++) due("told", x.told(what), 0);
        for (int tape = 0; tape < 6; tape++) due("item", x.item(tape, 0, 1), NOTHING);
        due("at(0)", x.at(0), NONE);
        due("undo()", x.undo(), STATE);
        due("NONE", PressHalls.NONE, -1);
        due("BAD", PressHalls.BAD, -2);
        due("STATE", PressHalls.STATE, -3);
        due("FULL", PressHalls.FULL, -4);
        due("NO", PressHalls.NO, Long.MIN_VALUE);
    }

    static void p02Job() {
        PressHalls x = new PressHalls();
        due("a 31", x.job(31, 0, 0), BAD);
        due("m 31", x.job(0, 31, 0), BAD);
        due("b 31", x.job(0, 0, 31), BAD);
        due("a -1", x.job(-1, 0, 0), BAD);
        due("m -1", x.job(0, -1, 0), BAD);
        due("b -1", x.job(0, 0, -1), BAD);
        due("none came", x.count(0), 0);
        due("greatest", x.job(30, 30, 30), 0);
        due("least", x.job(0, 0, 0), 1);
        for (int i = 2; i < 6; i++) due("job", x.job(i, 1, 2), i);
        due("seventh", x.job(1, 1, 1), FULL);
        due("BAD goes ahead of FULL", x.job(1, 1, MOST), BAD);
        due("a", x.of(3, 0), 3);
        due("m", x.of(3, 1), 1);
        due("b", x.of(3, 2), 2);
        due("cleaning first", x.of(3, 3), 0);
        due("cleaning second", x.of(3, 4), 0);
        due("due", x.of(3, 5), 99);
        duePlan(x, 0, 1, 2, 3, 4, 5);
        PressHalls y = small();
        y.plan(1);
        y.job(0, 0, 0);
        duePlan(y, 2, 1, 0, 3);
    }

    static void p03Renew() {
        PressHalls x = small();
        int[] before = {1, 4, 5, 0, 0, 99};
        int[] most = {30, 30, 30, 9, 9, 99};
        for (int what = 0; what < 6; what++) {
            due("above", x.renew(1, what, most[what] + 1), BAD);
            due("below", x.renew(1, what, -1), BAD);
            due("unchanged", x.of(1, what), before[what]);
            due("greatest", x.renew(1, what, most[what]), before[what]);
            due("least", x.renew(1, what, 0), most[what]);
            due("now", x.of(1, what), 0);
            due("other job", x.of(2, what), what == 0 ? 2 : what == 2 ? 2 : what == 5 ? 99 : 0);
        }
        due("job 3", x.renew(3, 0, 0), NONE);
        due("job -1", x.renew(-1, 0, 0), NONE);
        due("what 6", x.renew(0, 6, 0), NONE);
        due("what -1", x.renew(0, -1, 0), NONE);
        due("NONE goes ahead", x.renew(0, 6, -1), NONE);
        due("extremes", x.renew(LEAST, MOST, LEAST), NONE);
    }

    static void p04Of() {
        PressHalls x = small();
        x.move(2, 0);
        due("place", x.of(2, 6), 0);
        due("place", x.of(0, 6), 1);
        due("place", x.of(1, 6), 2);
        due("a", x.of(0, 0), 3);
        due("m", x.of(0, 1), 2);
        due("b", x.of(0, 2), 1);
        due("what 7", x.of(0, 7), NONE);
        due("what -1", x.of(0, -1), NONE);
        due("job 3", x.of(3, 0), NONE);
        due("job -1", x.of(-1, 6), NONE);
        due("extremes", x.of(MOST, LEAST), NONE);
    }

    static void p05Set() {
        PressHalls x = new PressHalls();
        due("mode", x.set(0, 2), 0);
        due("mode", x.set(0, 1), 2);
        due("aim", x.set(1, 2), 0);
        due("aim", x.set(1, 1), 2);
        due("told mode", x.told(1), 1);
        due("told aim", x.told(2), 1);
        due("mode 3", x.set(0, 3), BAD);
        due("mode -1", x.set(0, -1), BAD);
        due("aim 3", x.set(1, 3), BAD);
        due("aim -1", x.set(1, -1), BAD);
        due("what 2", x.set(2, 0), NONE);
        due("what -1", x.set(-1, 9), NONE);
        due("mode stays", x.told(1), 1);
        due("aim stays", x.told(2), 1);
    }

    static void p06Feed() {
        PressHalls x = new PressHalls();
        due("sign -1", x.feed(-1), BAD);
        due("sign 128", x.feed(128), BAD);
        due("none came", x.count(4), 0);
        due("sign 0", x.feed(0), 1);
        due("sign 127", x.feed(127), 2);
        for (int i = 3; i <= 100; i++) due("feed", x.feed('m'), i);
        due("the 101st", x.feed('m'), FULL);
        due("BAD goes ahead of FULL", x.feed(128), BAD);
        due("count", x.count(4), 100);
        due("fault at 0", x.read(), -10);
        due("empty then", x.feed('m'), 1);
    }

    static void p07Read() {
        PressHalls x = new PressHalls();
        dueRead(x, "j4,05,15;j30,0,6;c043;d120;d05;m2;a1", 7);
        int[] first = {4, 5, 15, 4, 3, 5, 0};
        int[] second = {30, 0, 6, 0, 0, 20, 1};
        for (int w = 0; w < 7; w++) due("of(0, " + w + ")", x.of(0, w), first[w]);
        for (int w = 0; w < 7; w++) due("of(1, " + w + ")", x.of(1, w), second[w]);
        due("mode", x.told(1), 2);
        due("aim", x.told(2), 1);
        dueRead(x, "m3;a9;j31,0,0;j0,99,0;c200;d300;m0", 1);
        due("mode", x.told(1), 0);
        due("two jobs", x.count(0), 2);
        dueRead(x, "d00;d07", 2);
        due("DUE was 0 and is 7", x.of(0, 5), 7);
        dueRead(x, "c200;j1,1,1;c212", 2);
        due("cleaning, by the later clause", x.of(2, 3), 1);
        dueRead(x, "j1,1,1;j1,1,1;j1,1,1;j1,1,1", 3);
        due("full", x.count(0), 6);
        faults(x);
        due("a text with a FAULT does nothing", x.told(1), 0);
        PressHalls y = new PressHalls();
        dueRead(y, "m0;m1;m2;m0;m1;m2;m0;m1;m2;m0;m1;m2", 12);
        dueRead(y, "m0;m1;m2;m0;m1;m2;m0;m1;m2;m0;m1;m0;", -45);
        due("mode", y.told(1), 2);
        String nineClauses = "j11,11,11;j11,11,11;j11,11,11;j11,11,11;j11,11,11;j11,11,11;j11,11,11;j11,11,11;j11,11,11;";
        dueRead(y, nineClauses + "j11,11,11;", -110);
        dueRead(y, nineClauses + "j11,11,1;", -109);
        dueRead(y, nineClauses + "j11,11,11", 6);
    }

    private static void faults(PressHalls x) {
        String[] texts = {"", "x", "j", "j,", "j1", "j123", "j1,2", "j1,2,", "j1,2,3,", "j1,2,345", "j1,2,3 ", " m1",
            "c", "c0", "c01", "c0123", "c0,1", "d", "d0", "d0123", "d;", "m", "m12", "m-1", "a", "a1;", "a1;;", "m1m2",
            "m1;x", "M1", "m1;j1,1", "a1,", "j1,234"};
        int[] places = {0, 0, 1, 1, 2, 3, 4, 5, 6, 7, 6, 0,
            1, 2, 3, 4, 2, 1, 2, 4, 1, 1, 2, 1, 1, 3, 3, 2,
            3, 0, 7, 2, 5};
        for (int i = 0; i < texts.length; i++) dueRead(x, texts[i], -10 - places[i]);
        x.feed('m');
        x.feed(0);
        due("sign 0", x.read(), -11);
        x.feed('m');
        x.feed('/');
        due("ahead of 0", x.read(), -11);
        x.feed('m');
        x.feed(':');
        due("behind 9", x.read(), -11);
    }

    static void p08Plan() {
        PressHalls x = small();
        due("lists", x.plan(1), 2);
        duePlan(x, 2, 1, 0);
        due("short", x.plan(2), 2);
        duePlan(x, 2, 0, 1);
        due("again", x.plan(2), 0);
        x.renew(1, 5, 7);
        due("urgent", x.plan(3), 2);
        duePlan(x, 1, 0, 2);
        due("come", x.plan(0), 2);
        duePlan(x, 0, 1, 2);
        due("rule 4", x.plan(4), BAD);
        due("rule -1", x.plan(-1), BAD);
        duePlan(x, 0, 1, 2);
        due("no jobs", new PressHalls().plan(0), STATE);
        due("BAD goes ahead", new PressHalls().plan(4), BAD);
    }

    static void p09Move() {
        PressHalls x = six();
        due("down", x.move(1, 4), 1);
        duePlan(x, 0, 2, 3, 4, 1, 5);
        due("up", x.move(5, 0), 5);
        duePlan(x, 5, 0, 2, 3, 4, 1);
        due("to where it is", x.move(2, 2), 2);
        duePlan(x, 5, 0, 2, 3, 4, 1);
        due("place 6", x.move(0, 6), BAD);
        due("place -1", x.move(0, -1), BAD);
        due("job 6", x.move(6, 0), NONE);
        due("NONE goes ahead", x.move(-1, -1), NONE);
        due("place beyond the jobs", small().move(0, 3), BAD);
        duePlan(x, 5, 0, 2, 3, 4, 1);
    }

    static void p10Swap() {
        PressHalls x = small();
        due("swap", x.swap(0), 1);
        duePlan(x, 1, 0, 2);
        due("swap", x.swap(1), 2);
        duePlan(x, 1, 2, 0);
        due("k 2", x.swap(2), NONE);
        due("k -1", x.swap(-1), NONE);
        due("greatest", x.swap(MOST), NONE);
        due("least", x.swap(LEAST), NONE);
        duePlan(x, 1, 2, 0);
        due("no jobs", new PressHalls().swap(0), NONE);
    }

    static void p11Step() {
        PressHalls x = small();
        due("n 0", x.step(0, 0), 0);
        due("first", x.step(0, 100), 1);
        duePlan(x, 1, 0, 2);
        x = small();
        x.set(1, 1);
        due("one at most", x.step(1, 1), 1);
        duePlan(x, 0, 2, 1);
        due("the rest", x.step(1, 100), 1);
        duePlan(x, 2, 0, 1);
        due("no more", x.step(2, 5), 0);
        x = small();
        x.set(1, 1);
        due("far", x.step(2, 100), 1);
        duePlan(x, 2, 0, 1);
        // From 1 0 2 two moves make FLOW 29: 1 to the end (0 2 1), 2 to the front (2 1 0).
        arrange(x, 1, 0, 2);
        due("no neighbours", x.step(0, 1), 0);
        due("no neighbours", x.step(1, 1), 0);
        due("far, of several", x.step(2, 1), 1);
        duePlan(x, 0, 2, 1);
        due("manner 3", x.step(3, 0), BAD);
        due("manner -1", x.step(-1, 0), BAD);
        due("n 101", x.step(0, 101), BAD);
        due("n -1", x.step(0, -1), BAD);
        due("no jobs", new PressHalls().step(2, 1), STATE);
        due("BAD goes ahead", new PressHalls().step(3, 1), BAD);
        firstOrMost();
    }

    /** FLOW with B alone: an exchange of neighbours with b, c first gains b - c; 3 2 9 1 gains 1 or 8. */
    private static void firstOrMost() {
        PressHalls x = new PressHalls();
        int[] hours = {3, 2, 9, 1};
        for (int b : hours) x.job(0, 0, b);
        x.set(1, 1);
        x.image();
        due("first", x.step(0, 1), 1);
        duePlan(x, 1, 0, 2, 3);
        x.undo();
        due("most", x.step(1, 1), 1);
        duePlan(x, 0, 1, 3, 2);
        x.undo();
        due("far", x.step(2, 1), 1);
        // The last to the front gains 2 + 1 + 8.
        duePlan(x, 3, 0, 1, 2);
        x.undo();
        due("first to the end", x.step(0, 100), 4);
        duePlan(x, 3, 1, 0, 2);
    }

    static void p12At() {
        PressHalls x = small();
        duePlan(x, 0, 1, 2);
        x.plan(1);
        duePlan(x, 2, 1, 0);
        due("place 3", x.at(3), NONE);
        due("place -1", x.at(-1), NONE);
        due("no jobs", new PressHalls().at(0), NONE);
    }

    static void p13Time() {
        PressHalls x = small();
        x.renew(1, 5, 10);
        dueTimes(x, 0, 0, 3, 3, 5, 5, 6, -93);
        dueTimes(x, 1, 3, 4, 4, 8, 8, 13, 3);
        dueTimes(x, 2, 4, 6, 6, 6, 13, 15, -84);
        x.set(0, 1);
        dueTimes(x, 1, 3, 4, 4, 9, 9, 14, 4);
        dueTimes(x, 2, 4, 6, 6, 9, 14, 16, -83);
        x.set(0, 2);
        dueTimes(x, 1, 3, 4, 4, 8, 8, 13, 3);
        dueTimes(x, 2, 4, 6, 13, 6, 13, 15, -84);
        x.renew(0, 3, 2);
        x.renew(0, 4, 9);
        // The second hall is free at 15: by BLOCK job 1 waits in the first one until 11.
        dueTimes(x, 1, 5, 6, 11, 10, 15, 20, 10);
        dueTimes(x, 2, 11, 13, 20, 13, 20, 22, -77);
        x.set(0, 0);
        dueTimes(x, 1, 5, 6, 6, 10, 15, 20, 10);
        dueTimes(x, 2, 6, 8, 8, 8, 20, 22, -77);
        x.plan(1);
        dueTimes(x, 2, 0, 2, 2, 2, 2, 4, -95);
        PressHalls y = new PressHalls();
        y.set(0, 1);
        y.job(0, 2, 1);
        dueTimes(y, 0, 0, 0, 0, 2, 2, 3, -96);
        due("what 7", x.time(0, 7), NO);
        due("what -1", x.time(0, -1), NO);
        due("job 3", x.time(3, 0), NO);
        due("job -1", x.time(-1, 0), NO);
    }

    static void p14Told() {
        PressHalls x = small();
        long[] first = {3, 0, 0, 15, 15, 10, 7, 1, 1, 1, 0, 0, 2};
        for (int w = 0; w < 13; w++) due("told(" + w + ")", x.told(w), first[w]);
        due("what 13", x.told(13), NO);
        due("what -1", x.told(-1), NO);
        x.set(1, 1);
        long[] byFlow = {3, 0, 1, 34, 15, 10, 7, 1, 1, 1, 0, 0, 2};
        for (int w = 0; w < 13; w++) due("told(" + w + ") by FLOW", x.told(w), byFlow[w]);
        x.set(1, 2);
        due("LATE", x.told(3), -84);
        x.plan(2);
        x.set(1, 1);
        long[] best = {3, 0, 1, 27, 15, 10, 7, 1, 0, 0, 1, 0, 2};
        for (int w = 0; w < 13; w++) due("told(" + w + ") of 2 0 1", x.told(w), best[w]);
        // Cleaning of the last one is behind the latest ENDS; that of job 2 (9 behind 4) is no waiting.
        x.renew(1, 4, 9);
        due("WAITED", x.told(6), 7);
        // 2 ends at 4, 0 from 7 to 8, 1 begins again at 11: 16 less 8, less 3.
        x.renew(0, 4, 3);
        due("WAITED, cleaning of the last but one", x.told(6), 5);
        x.renew(0, 4, 0);
        x.renew(2, 4, 9);
        // 2 ends at 4, 0 from 13 to 14, 1 begins again at 14: 19 less 8, less 9.
        due("WAITED with cleaning", x.told(6), 2);
        due("TURN with cleaning", x.told(7), 2);
        PressHalls none = new PressHalls();
        none.set(0, 2);
        none.set(1, 1);
        due("mode", none.told(1), 2);
        due("aim", none.told(2), 1);
        for (int w = 3; w < 13; w++) due("no jobs", none.told(w), NO);
        easy();
    }

    private static void easy() {
        PressHalls x = new PressHalls();
        x.job(5, 5, 1);
        x.job(6, 4, 1);
        due("none above the least A", x.told(11), 1);
        x.renew(1, 1, 6);
        due("one is", x.told(11), 0);
        x.renew(0, 2, 6);
        x.renew(1, 2, 6);
        due("none above the least B", x.told(11), 1);
        due("A not above B", x.told(12), 2);
        x.renew(1, 2, 5);
        due("A above B", x.told(12), 1);
        due("bound", x.told(5), 22);
        x.renew(0, 1, 0);
        due("bound, the other part", x.told(5), 17);
        PressHalls y = new PressHalls();
        y.job(0, 0, 0);
        due("no hours at all", y.told(11), 1);
    }

    static void p15Would() {
        PressHalls x = small();
        due("k 0", x.would(0), 13);
        due("k 1", x.would(1), 15);
        x.set(1, 1);
        due("k 0 by FLOW", x.would(0), 34);
        due("k 1 by FLOW", x.would(1), 29);
        x.set(0, 1);
        // 0 ends at 6, 2 arrives at 5, ends at 8, 1 arrives at 10, ends at 15.
        due("k 1 by FLOW, ROOM", x.would(1), 29);
        due("k 2", x.would(2), NO);
        due("k -1", x.would(-1), NO);
        due("greatest", x.would(MOST), NO);
        due("least", x.would(LEAST), NO);
        duePlan(x, 0, 1, 2);
        due("no jobs", new PressHalls().would(0), NO);
    }

    static void p16Ruled() {
        PressHalls x = small();
        x.renew(2, 5, 3);
        x.renew(0, 5, 4);
        int[][] orders = {{0, 1, 2}, {2, 1, 0}, {2, 0, 1}, {2, 0, 1}};
        for (int rule = 0; rule < 4; rule++) {
            for (int p = 0; p < 3; p++) due("ruled " + rule, x.ruled(rule, p), orders[rule][p]);
        }
        due("place 3", x.ruled(0, 3), NONE);
        due("place -1", x.ruled(0, -1), NONE);
        due("rule 4", x.ruled(4, 0), NONE);
        due("rule -1", x.ruled(-1, 0), NONE);
        due("no jobs", new PressHalls().ruled(0, 0), NONE);
        duePlan(x, 0, 1, 2);
        PressHalls y = new PressHalls();
        // Others by M and B: 6, 7, 6; of the FIRST LIST by A and M: 9, 9 (A as B is in it).
        y.job(9, 2, 4);
        y.job(6, 3, 6);
        y.job(9, 4, 3);
        y.job(9, 0, 9);
        y.job(30, 5, 1);
        int[] lists = {1, 3, 2, 0, 4};
        for (int p = 0; p < 5; p++) due("lists", y.ruled(1, p), lists[p]);
        int[] shortest = {0, 1, 2, 3, 4};
        for (int p = 0; p < 5; p++) due("short", y.ruled(2, p), shortest[p]);
    }

    static void p17Cost() {
        PressHalls x = small();
        due("come, WAY, END", x.cost(0, 0, 0), 15);
        due("come, ROOM, END", x.cost(0, 1, 0), 16);
        due("come, ROOM, FLOW", x.cost(0, 1, 1), 36);
        due("lists, WAY, END", x.cost(1, 0, 0), 13);
        due("lists, WAY, FLOW", x.cost(1, 0, 1), 29);
        due("short, WAY, FLOW", x.cost(2, 0, 1), 27);
        due("lists, WAY, LATE", x.cost(1, 0, 2), -86);
        // By BLOCK 1 leaves at 3, 0 is done at 6, arrives at 8, begins again at 12.
        due("lists, BLOCK, END", x.cost(1, 2, 0), 13);
        x.renew(1, 5, 2);
        due("urgent, WAY, LATE", x.cost(3, 0, 2), 8);
        due("rule 4", x.cost(4, 0, 0), NO);
        due("rule -1", x.cost(-1, 0, 0), NO);
        due("mode 3", x.cost(0, 3, 0), NO);
        due("mode -1", x.cost(0, -1, 0), NO);
        due("aim 3", x.cost(0, 0, 3), NO);
        due("aim -1", x.cost(0, 0, -1), NO);
        due("no jobs", new PressHalls().cost(0, 0, 0), NO);
        duePlan(x, 0, 1, 2);
    }

    static void p18Least() {
        PressHalls x = small();
        due("WAY, END", x.least(0, 0), 13);
        due("WAY, FLOW", x.least(0, 1), 27);
        due("WAY, LATE", x.least(0, 2), -86);
        x.renew(2, 5, 3);
        // 2 first: 1 late at least.
        due("WAY, LATE with DUE", x.least(0, 2), 1);
        due("mode 3", x.least(3, 0), NO);
        due("mode -1", x.least(-1, 0), NO);
        due("aim 3", x.least(0, 3), NO);
        due("aim -1", x.least(0, -1), NO);
        due("no jobs", new PressHalls().least(0, 0), NO);
        PressHalls y = new PressHalls();
        for (int i = 0; i < 6; i++) y.job(0, 0, 6 - i);
        PressHalls z = modes();
        due("WAY", z.least(0, 0), 11);
        due("ROOM", z.least(1, 0), 12);
        due("BLOCK", z.least(2, 0), 11);
        due("six, END", y.least(2, 0), 21);
        due("six, FLOW", y.least(2, 1), 56);
    }

    /** By ROOM the second of these sets out at 10 behind the first one, or the first one at 1 behind the second. */
    private static PressHalls modes() {
        PressHalls x = new PressHalls();
        x.job(0, 10, 1);
        x.job(0, 1, 1);
        return x;
    }

    static void p19Best() {
        due("WAY", modes().best(0, 0, 0), 1);
        due("ROOM", modes().best(1, 0, 0), 0);
        PressHalls z = new PressHalls();
        z.job(0, 0, 5);
        z.job(0, 0, 1);
        z.job(5, 0, 0);
        // By BLOCK job 1 would hold the first hall until 5: 0 1 2 ends at 10, 0 2 1 at 6.
        due("WAY", z.best(0, 0, 1), 1);
        due("BLOCK", z.best(2, 0, 1), 2);
        PressHalls x = small();
        // Orders 1 0 2, 1 2 0, 2 1 0 all end at 13.
        int[] byEnd = {1, 0, 2};
        int[] byFlow = {2, 0, 1};
        for (int p = 0; p < 3; p++) {
            due("END", x.best(0, 0, p), byEnd[p]);
            due("FLOW", x.best(0, 1, p), byFlow[p]);
        }
        due("mode 3", x.best(3, 0, 0), BAD);
        due("mode -1", x.best(-1, 0, 0), BAD);
        due("aim 3", x.best(0, 3, 9), BAD);
        due("aim -1", x.best(0, -1, 0), BAD);
        due("place 3", x.best(0, 0, 3), NONE);
        due("place -1", x.best(0, 0, -1), NONE);
        due("no jobs", new PressHalls().best(2, 2, 0), NONE);
        duePlan(x, 0, 1, 2);
        PressHalls y = new PressHalls();
        for (int i = 0; i < 6; i++) y.job(0, 0, 6 - i);
        for (int p = 0; p < 6; p++) {
            due("all alike", y.best(1, 0, p), p);
            due("the short first", y.best(1, 1, p), 5 - p);
        }
    }

    static void p20Slack() {
        PressHalls x = small();
        due("of the others", x.slack(0), 30);
        due("by both lists at place 1", x.slack(1), 30);
        due("leaves its list at once", x.slack(2), 0);
        x.renew(2, 2, 30);
        // A and M together 2, 3, .. against 5 of job 1: alike at 3 more, when the less number goes first.
        due("till alike", x.slack(2), 2);
        due("hours unchanged", x.of(2, 0), 2);
        due("job 3", x.slack(3), NONE);
        due("job -1", x.slack(-1), NONE);
        PressHalls y = new PressHalls();
        y.job(30, 0, 30);
        due("alone", y.slack(0), 30);
        y.job(30, 0, 0);
        due("above 30, it leaves the list, stays ahead", y.slack(0), 30);
        y.renew(0, 2, 0);
        y.renew(1, 2, 30);
        due("31 hours: out of the FIRST LIST, behind", y.slack(1), 30);
        y.renew(0, 1, 30);
        y.renew(0, 2, 1);
        due("31 hours: behind one with more", y.slack(1), 0);
        PressHalls z = new PressHalls();
        z.job(0, 0, 30);
        z.job(29, 0, 30);
        due("otherwise by 30 more", z.slack(0), 29);
        z.renew(1, 0, 30);
        due("alike by 30 more", z.slack(0), 30);
    }

    static void p21See() {
        PressHalls x = small();
        due("job 3", x.see(3, 0), NONE);
        due("job -2", x.see(-2, 0), NONE);
        due("place 6", x.see(0, 6), BAD);
        due("place -1", x.see(0, -1), BAD);
        due("NONE goes ahead", x.see(3, 6), NONE);
        for (int i = 1; i <= 5; i++) due("see", x.see(i % 3, i), i);
        due("sixth", x.see(0, 0), FULL);
        due("BAD goes ahead of FULL", x.see(0, 6), BAD);
        due("count", x.count(1), 5);
        due("none then", x.see(-1, 77), 0);
        due("count", x.count(1), 0);
        due("again", x.see(0, 0), 1);
    }

    static void p22Fits() {
        PressHalls x = small();
        due("nothing seen", x.fits(0, 0), 31);
        due("nothing seen", x.fits(0, 1), 0);
        x.see(2, 0);
        due("2 of 0 .. 2", x.fits(2, 0), 3);
        due("2, the least", x.fits(2, 1), 0);
        due("1 always", x.fits(1, 0), 31);
        x.see(1, 1);
        due("0 of 2 .. 30", x.fits(0, 0), 29);
        due("0, the least", x.fits(0, 1), 2);
        x.see(0, 5);
        due("none", x.fits(0, 0), 0);
        due("none", x.fits(0, 1), -5);
        due("job 3", x.fits(3, 0), NONE);
        due("job -1", x.fits(-1, 0), NONE);
        due("what 2", x.fits(0, 2), NONE);
        due("what -1", x.fits(0, -1), NONE);
        due("hours unchanged", x.of(0, 0), 3);
    }

    static void p23Odds() {
        PressHalls x = new PressHalls();
        x.job(5, 0, 5);
        due("alone", x.odds(0, 0), 1);
        due("alone", x.odds(0, 1), 1);
        x.job(5, 0, 5);
        // Job 1 is first only if that is less: with hours 0 .. 4.
        due("half", x.odds(1, 0), 1);
        due("half", x.odds(1, 1), 2);
        due("always", x.odds(0, 0), 1);
        due("always", x.odds(0, 1), 1);
        x.set(1, 2);
        x.renew(0, 5, 10);
        due("never, by LATE", x.odds(1, 0), 0);
        due("never, by LATE", x.odds(1, 1), 1);
        due("part 2", x.odds(0, 2), NO);
        due("part -1", x.odds(0, -1), NO);
        due("job 2", x.odds(2, 0), NO);
        due("job -1", x.odds(-1, 0), NO);
        due("hours unchanged", x.of(1, 0), 5);
        x.set(1, 1);
        x.renew(0, 0, 3);
        x.renew(0, 2, 0);
        x.renew(1, 2, 0);
        // FLOW without B: 3 and 3 + h, or h and h + 3: job 1 is first with hours 0 .. 2.
        due("three of ten", x.odds(1, 0), 3);
        due("three of ten", x.odds(1, 1), 10);
    }

    static void p24Mean() {
        PressHalls x = small();
        due("above", x.mean(0), 34);
        due("below", x.mean(1), 3);
        x.plan(2);
        due("27 by 3", x.mean(0), 9);
        due("27 by 3", x.mean(1), 1);
        x.set(1, 2);
        due("whatever the aim", x.mean(0), 9);
        x.set(0, 1);
        x.plan(0);
        due("by the mode: 36 by 3", x.mean(0), 12);
        due("part 2", x.mean(2), NO);
        due("part -1", x.mean(-1), NO);
        due("no jobs", new PressHalls().mean(0), NO);
        PressHalls y = new PressHalls();
        y.job(0, 0, 0);
        y.job(0, 0, 0);
        due("0 by 2", y.mean(0), 0);
        due("0 by 2", y.mean(1), 1);
        PressHalls z = new PressHalls();
        z.job(1, 1, 1);
        due("3 by 1", z.mean(0), 3);
        y.job(0, 0, 2);
        y.job(0, 0, 0);
        due("4 by 4", y.mean(1), 1);
        y.renew(2, 2, 1);
        due("2 by 4", y.mean(1), 2);
    }

    static void p25Event() {
        PressHalls x = small();
        due("what 4", x.event(4, 0), NONE);
        due("what -2", x.event(-2, 0), NONE);
        due("A of job 3", x.event(0, 3), NONE);
        due("B of job -1", x.event(1, -1), NONE);
        due("M of job 3", x.event(3, 3), NONE);
        due("mode 3", x.event(2, 3), BAD);
        due("mode -1", x.event(2, -1), BAD);
        for (int i = 1; i <= 8; i++) due("event", x.event(i % 4, i % 3), i);
        due("ninth", x.event(0, 0), FULL);
        due("BAD goes ahead of FULL", x.event(2, 3), BAD);
        due("NONE goes ahead of FULL", x.event(0, 3), NONE);
        due("count", x.count(2), 8);
        due("none then", x.event(-1, 99), 0);
        due("count", x.count(2), 0);
        due("mode without jobs", new PressHalls().event(2, 2), 1);
    }

    static void p26After() {
        PressHalls x = small();
        due("no event", x.after(0), 15);
        due("no event, best", x.after(1), 13);
        x.event(0, 1);
        due("1 a longer", x.after(0), 16);
        x.event(3, 1);
        // 1 is done at 5, begins again at 6, ends at 11.
        due("and no way", x.after(0), 13);
        x.event(1, 1);
        due("and b longer", x.after(0), 14);
        // 6 hours in the second hall behind 2 and 2: 2 first; or 2 behind 1.
        due("best then", x.after(1), 11);
        due("nothing has changed", x.told(3), 15);
        due("nothing has changed", x.of(1, 1), 4);
        x.event(-1, 0);
        x.event(2, 1);
        due("mode", x.after(0), 16);
        due("the mode is as before", x.told(1), 0);
        x.set(1, 1);
        due("by FLOW", x.after(0), 36);
        x.event(2, 0);
        due("the later mode", x.after(0), 34);
        due("the later mode, best", x.after(1), 27);
        due("what 2", x.after(2), NO);
        due("what -1", x.after(-1), NO);
        due("no jobs", new PressHalls().after(0), NO);
        PressHalls y = new PressHalls();
        y.job(29, 0, 29);
        for (int i = 0; i < 4; i++) {
            y.event(0, 0);
            y.event(1, 0);
        }
        due("30 at most", y.after(0), 60);
        due("30 at most", y.after(1), 60);
    }

    static void p27Book() {
        PressHalls x = small();
        due("job 3", x.book(3, 0), NONE);
        due("job -2", x.book(-2, 0), NONE);
        due("place 6", x.book(0, 6), BAD);
        due("place -1", x.book(0, -1), BAD);
        due("NONE goes ahead", x.book(3, -1), NONE);
        for (int i = 1; i <= 8; i++) due("book", x.book(i % 3, i % 6), i);
        due("ninth", x.book(0, 0), FULL);
        due("BAD goes ahead of FULL", x.book(0, 6), BAD);
        due("count", x.count(3), 8);
        due("seen is another", x.count(1), 0);
        due("none then", x.book(-1, -7), 0);
        due("count", x.count(3), 0);
    }

    static void p28Looked() {
        PressHalls x = small();
        due("no row", x.looked(), -5);
        x.book(2, 2);
        x.book(0, 0);
        due("none otherwise", x.looked(), -5);
        x.book(1, 2);
        due("the third", x.looked(), 2);
        x.swap(0);
        due("the second", x.looked(), 1);
        x.book(-1, 0);
        x.book(0, 3);
        due("a place beyond the jobs", x.looked(), 0);
    }

    static void p29Judge() {
        PressHalls x = small();
        due("tape 6", x.judge(6, 0), NONE);
        due("tape -1", x.judge(-1, 0), NONE);
        due("holds nothing", x.judge(0, 0), 100);
        for (int sort = 0; sort < 5; sort++) {
            x.tape(1, sort, 3);
            due("sort " + sort, x.judge(1, 0), sort == 1 ? 0 : CAST);
        }
        x.tape(0, 1, 5);
        int[] ends = {7, 6, 13, 15, 1};
        for (int i = 0; i < 5; i++) x.item(0, i, ends[i]);
        due("as they are", x.judge(0, 1), -5);
        due("from 0", x.judge(0, 0), 0);
        due("from 5", x.judge(0, 5), 100);
        due("from -1", x.judge(0, -1), 100);
        due("greatest", x.judge(0, MOST), 100);
        due("least", x.judge(0, LEAST), 100);
        x.item(0, 3, 14);
        due("the last place", x.judge(0, 1), 2);
        x.tape(2, 1, 2);
        x.shift(0, 1, 2, 0, 2);
        due("ends too early", x.judge(2, 0), 102);
        x.item(2, 1, 12);
        due("others ahead of that", x.judge(2, 0), 1);
        PressHalls none = new PressHalls();
        due("no jobs, nothing", none.judge(0, 0), -5);
        due("no jobs, nothing, from -1", none.judge(0, -1), -5);
        none.tape(0, 0, 1);
        due("CAST goes ahead", none.judge(0, 0), CAST);
        due("NONE goes ahead", none.judge(6, 0), NONE);
        none.tape(0, 1, 0);
        due("no jobs, a row", none.judge(0, 0), -5);
    }

    static void p30Image() {
        PressHalls x = new PressHalls();
        due("no jobs", x.image(), 0);
        x.job(1, 1, 1);
        due("a job", x.image(), 1);
        x.job(1, 1, 1);
        due("the later image", x.undo(), 1);
        due("the later image", x.image(), 1);
    }

    static void p31Undo() {
        PressHalls x = small();
        due("none", x.undo(), STATE);
        x.renew(0, 3, 2);
        x.swap(0);
        x.set(0, 1);
        x.set(1, 2);
        x.see(0, 1);
        x.event(2, 2);
        x.book(2, 0);
        x.feed('m');
        x.tape(0, 0, 1);
        due("taken", x.image(), 3);
        x.job(9, 9, 9);
        x.renew(0, 3, 5);
        x.renew(3, 5, 0);
        x.plan(3);
        x.set(0, 0);
        x.set(1, 0);
        x.see(1, 1);
        x.event(-1, 0);
        x.event(1, 0);
        x.event(1, 0);
        x.book(-1, 0);
        x.feed('1');
        x.tape(1, 0, 1);
        x.item(0, 0, 7);
        for (int again = 0; again < 2; again++) {
            due("undo", x.undo(), 3);
            due("jobs", x.count(0), 3);
            due("cleaning", x.of(0, 3), 2);
            duePlan(x, 1, 0, 2);
            due("mode", x.told(1), 1);
            due("aim", x.told(2), 2);
            due("seen", x.count(1), 1);
            due("events", x.count(2), 1);
            due("book", x.count(3), 1);
            due("looked", x.looked(), 0);
            due("the text stays", x.count(4), 2);
            due("the tape stays", x.peek(0, 0), 7);
            due("the tape stays", x.peek(1, 0), 0);
            due("a new job", x.job(1, 2, 3), 3);
            due("is new", x.of(3, 5), 99);
            due("is new", x.of(3, 3), 0);
            due("is new", x.of(3, 4), 0);
            x.renew(3, 3, 4);
            x.renew(3, 4, 5);
            x.renew(3, 5, 6);
            x.plan(2);
            x.renew(0, 3, 9);
            x.see(-1, 0);
            x.book(2, 2);
            x.set(1, 0);
        }
        x.undo();
        due("a new job", x.job(1, 2, 3), 3);
        due("is new", x.of(3, 3), 0);
        due("is new", x.of(3, 4), 0);
        undoneRows();
    }

    private static void undoneRows() {
        PressHalls x = small();
        x.see(1, 1);
        x.see(2, 0);
        x.event(2, 0);
        x.event(0, 1);
        x.book(1, 1);
        x.book(0, 2);
        x.image();
        x.see(-1, 0);
        x.see(0, 3);
        x.see(0, 4);
        x.event(-1, 0);
        x.event(3, 2);
        x.event(2, 2);
        x.book(-1, 0);
        x.book(2, 4);
        x.book(2, 2);
        x.undo();
        due("seen", x.fits(2, 0), 3);
        due("events", x.after(0), 16);
        due("book", x.looked(), 1);
        x.move(0, 2);
        due("book", x.looked(), 0);
        x.move(1, 1);
        due("book", x.looked(), -5);
    }

    static void p32Count() {
        PressHalls x = small();
        x.see(0, 0);
        x.see(0, 0);
        x.event(0, 0);
        for (int i = 0; i < 4; i++) x.book(0, 0);
        for (int i = 0; i < 5; i++) x.feed('a');
        int[] many = {3, 2, 1, 4, 5};
        for (int w = 0; w < 5; w++) due("count(" + w + ")", x.count(w), many[w]);
        due("what 5", x.count(5), BAD);
        due("what -1", x.count(-1), BAD);
    }

    static void p33Tape() {
        PressHalls x = new PressHalls();
        due("tape 6", x.tape(6, 0, 1), NONE);
        due("tape -1", x.tape(-1, -1, 0), NONE);
        due("NONE goes ahead", x.tape(6, 5, -1), NONE);
        due("sort 5", x.tape(0, 5, 1), BAD);
        due("sort -2", x.tape(0, -2, 1), BAD);
        due("n 61", x.tape(0, 0, 61), BAD);
        due("n -1", x.tape(0, 0, -1), SIZE);
        due("BAD goes ahead of SIZE", x.tape(0, 5, -1), BAD);
        due("least", x.tape(0, 4, LEAST), SIZE);
        due("greatest", x.tape(0, 4, MOST), BAD);
        due("still nothing", x.item(0, 0, 0), NOTHING);
        for (int sort = 0; sort < 5; sort++) due("sort " + sort, x.tape(sort, sort, 60), 1);
        due("last item", x.item(3, 59, 5), 1);
        due("it is there", x.peek(3, 59), 5);
        due("no such", x.item(3, 60, 5), PLACE);
        due("refused", x.tape(3, 3, -1), SIZE);
        due("as it was", x.peek(3, 59), 5);
        due("made anew", x.tape(3, 3, 60), 1);
        due("all 0", x.peek(3, 59), 0);
        due("n 0", x.tape(3, 1, 0), 1);
        due("no item", x.item(3, 0, 0), PLACE);
        due("nothing", x.tape(3, -1, 1000), 1);
        due("nothing", x.tape(3, -1, -1000), 1);
        due("nothing is there", x.item(3, 0, 0), NOTHING);
    }

    static void p34Item() {
        PressHalls x = new PressHalls();
        for (int sort = 0; sort < 5; sort++) x.tape(sort, sort, 2);
        long v = 0x123456789abcdef0L;
        long[] lowest = {(byte) 0xf0, (short) 0xdef0, 0x9abcdef0, v, 1};
        for (int sort = 0; sort < 5; sort++) {
            due("item", x.item(sort, 1, v), 1);
            due("lowest bits", x.peek(sort, 1), lowest[sort]);
            due("the other", x.peek(sort, 0), 0);
            due("item", x.item(sort, 1, 0), 1);
            due("0", x.peek(sort, 1), 0);
            due("item", x.item(sort, 0, -1), 1);
            due("-1", x.peek(sort, 0), sort == 4 ? 1 : -1);
            due("i 2", x.item(sort, 2, 1), PLACE);
            due("i -1", x.item(sort, -1, 1), PLACE);
        }
        x.item(0, 0, 128);
        due("byte", x.peek(0, 0), -128);
        x.item(1, 0, 32768);
        due("short", x.peek(1, 0), -32768);
        x.item(2, 0, 1L << 31);
        due("int", x.peek(2, 0), LEAST);
        x.item(4, 0, 1L << 32);
        due("boolean", x.peek(4, 0), 1);
        due("nothing", x.item(5, 0, 1), NOTHING);
        due("nothing, place", x.item(5, -1, 1), NOTHING);
        due("tape 6", x.item(6, 0, 1), NONE);
        due("tape -1", x.item(-1, 0, 1), NONE);
    }

    static void p35Peek() {
        PressHalls x = new PressHalls();
        due("nothing there", x.peek(0, 0), NO);
        x.tape(0, 3, 2);
        x.item(0, 1, 77);
        due("item", x.peek(0, 1), 77);
        due("item", x.peek(0, 0), 0);
        due("place 2", x.peek(0, 2), NO);
        due("place -1", x.peek(0, -1), NO);
        due("tape 6", x.peek(6, 0), NO);
        due("tape -1", x.peek(-1, 0), NO);
        x.tape(0, -1, 0);
        due("nothing any more", x.peek(0, 0), NO);
    }

    private static void dueItems(PressHalls x, int tape, long... items) {
        for (int i = 0; i < items.length; i++) due("peek(" + tape + ", " + i + ")", x.peek(tape, i), items[i]);
        due("its end", x.peek(tape, items.length), NO);
    }

    static void p36Shift() {
        PressHalls x = new PressHalls();
        x.tape(0, 2, 5);
        x.tape(1, 2, 3);
        x.tape(2, 3, 5);
        for (int i = 0; i < 5; i++) x.item(0, i, i + 1);
        due("to another", x.shift(0, 3, 1, 0, 2), 2);
        dueItems(x, 1, 4, 5, 0);
        dueItems(x, 0, 1, 2, 3, 4, 5);
        due("behind itself", x.shift(0, 0, 0, 1, 4), 4);
        dueItems(x, 0, 1, 1, 2, 3, 4);
        due("ahead of itself", x.shift(0, 2, 0, 0, 3), 3);
        dueItems(x, 0, 2, 3, 4, 3, 4);
        due("none, at both ends", x.shift(0, 5, 1, 3, 0), 0);
        due("all of it", x.shift(1, 0, 1, 0, 3), 3);
        due("n -1", x.shift(0, 0, 1, 0, -1), PLACE);
        due("i -1", x.shift(0, -1, 1, 0, 1), PLACE);
        due("j -1", x.shift(0, 0, 1, -1, 1), PLACE);
        due("beyond the one", x.shift(0, 4, 1, 0, 2), PLACE);
        due("beyond the other", x.shift(0, 0, 1, 2, 2), PLACE);
        due("beyond with none", x.shift(0, 6, 1, 0, 0), PLACE);
        due("beyond with none", x.shift(0, 0, 1, 4, 0), PLACE);
        due("wraps", x.shift(0, MOST, 1, 0, MOST), PLACE);
        due("wraps", x.shift(0, 1, 1, 1, MOST), PLACE);
        due("least", x.shift(0, LEAST, 1, LEAST, LEAST), PLACE);
        due("sorts", x.shift(0, 0, 2, 0, 1), CAST);
        due("CAST goes ahead of PLACE", x.shift(0, -1, 2, 0, 1), CAST);
        due("nothing to", x.shift(0, 0, 3, 0, 1), NOTHING);
        due("nothing from", x.shift(3, -1, 0, 0, 1), NOTHING);
        due("tape 6", x.shift(6, 0, 3, 0, 1), NONE);
        due("tape -1", x.shift(3, 0, -1, 0, 1), NONE);
        dueItems(x, 1, 4, 5, 0);
        dueItems(x, 0, 2, 3, 4, 3, 4);
        x.tape(3, 0, 1);
        x.tape(4, 4, 1);
        due("bytes and booleans are unlike", x.shift(3, 0, 4, 0, 0), CAST);
    }

    public static void main(String[] args) throws Exception {
        java.lang.reflect.Method[] all = PromiseTests.class.getDeclaredMethods();
        java.util.Arrays.sort(all, java.util.Comparator.comparing(java.lang.reflect.Method::getName));
        int promises = 0;
        for (java.lang.reflect.Method m : all) {
            if (!m.getName().matches("p\\d\\d.*")) continue;
            promise = Integer.parseInt(m.getName().substring(1, 3));
            promises++;
            m.invoke(null);
        }
        System.out.println("PromiseTests: " + promises + " promises, " + looked + " answers, " + wrong + " wrong");
        if (wrong != 0 || promises != 36) System.exit(1);
    }
}
