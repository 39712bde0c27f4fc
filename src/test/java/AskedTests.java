/** The sentences of "Terms" on what is asked, on THE IMAGE, the TAPES and the answers, one by one. */
public final class AskedTests extends Sentences {

    /**
     * SOME has JOBS 0 (4 2 6, first CLEANING 1), 1 (3 1 9, second CLEANING 2), 2 (8 0 2, DUE 20), 3 (2 5 3), the PLAN
     * 0 3 1 2 with ENDS 12 15 24 28, BLOCK and LATE.
     */
    private static void changesNothing() {
        says("All that follows is asked, and changes nothing.",
            SOME, "told 0 ! 4 2 2 8 28 24 6 3 1 1 0 0 3 NO", "least 2 2 ! -10 NO", "best 2 2 0 ! 2 0 1 3 NONE",
            "slack 0 ! 1 1 30 30 NONE", "fits 1 0 ! 0 -5 NONE", "odds 0 0 ! 0 1 NO", "odds 2 0 ! 1 1 NO",
            "mean 0 ! 79 4 NO", "after 0 ! 8 -10 NO", "looked ! -5", "judge 1 0 ! 1 0 0 0 100");
        says("what is asked changes nothing",
            SOME, "of 0 0 ! 4 2 6 1 0 99 0 NONE", "at 0 ! 0 3 1 2 NONE", "time 2 0 ! 14 22 26 22 26 28 8 NO",
            "would 0 ! 9 8 -3 NO", "ruled 0 0 ! 0 1 2 3 NONE", "ruled 1 0 ! 1 0 3 2 NONE", "ruled 2 0 ! 2 3 0 1 NONE",
            "ruled 3 0 ! 2 0 1 3 NONE", "cost 1 0 0 ! 26 84 6 NO", "count 0 ! 4 2 3 1 21 BAD", "peek 0 0 ! 0 -7 0 NO");
    }

    private static void best() {
        says("BEST by a MODE and an AIM: of orders of all JOBS that with the least COST",
            "best 0 0 0 ! NONE", "job 0 0 2", "best 2 2 0 ! 0 NONE", "least 2 2 : -97", "job 0 0 1",
            "best 0 1 0 ! 1 0 NONE", "least 0 1 : 4");
        says("of several that which has the least JOB at place 0, of several of these at place 1, and so on",
            "job 0 0 0", "job 0 0 0", "job 0 0 0", "move 2 0", "best 0 0 0 ! 0 1 2 NONE", "best 1 1 0 ! 0 1 2",
            "best 2 2 0 ! 0 1 2");
        // Orders 1 0 2, 1 2 0, 2 1 0 end at 13, the others later.
        says("of several of these at place 1",
            "job 3 2 1", "job 1 4 5", "job 2 0 2", "plan 1", "best 0 0 0 ! 1 0 2 NONE", "least 0 0 : 13");
        // By BLOCK a JOB without B that goes last keeps no other from the first hall.
        says("by a MODE and an AIM",
            "job 0 0 5", "job 0 0 1", "job 5 0 0", "best 0 0 0 : 0 1 2", "best 2 0 0 : 0 2 1", "least 0 0 : 6",
            "least 2 0 : 6");
    }

    private static void boundWaitedTurn() {
        says("BOUND: the greater of: all A together and the least of M and B together; all B together and the least of A "
                + "and M together.",
            "told 5 ! NO", "job 3 2 1", "told 5 : 6", "job 1 4 5", "job 2 0 2", "told 5 : 10", "renew 0 3 9",
            "renew 1 4 9", "told 5 : 10");
        says("BOUND: the greater of: all A together and the least of M and B together",
            "job 9 0 1", "job 9 1 1", "told 5 : 19", "renew 0 1 1", "renew 1 1 1", "told 5 : 20", "job 0 0 0",
            "told 5 : 18");
        says("all B together and the least of A and M together",
            "job 1 0 9", "job 1 1 9", "told 5 : 19", "renew 0 1 1", "told 5 : 20", "renew 0 0 0", "told 5 : 19",
            "renew 0 2 0", "renew 1 2 0", "told 5 : 2");
        says("WAITED: how long the second hall is free ahead of the latest ENDS of the PLAN, without CLEANING",
            "told 6 ! NO", "job 0 0 0", "told 6 : 0", "renew 0 0 3", "renew 0 1 2", "renew 0 2 1", "told 6 : 5",
            "renew 0 4 9", "renew 0 3 9", "told 6 : 5");
        says("(that less all B, less all CLEANINGS of the second hall but that of the last JOB)",
            "job 0 0 2", "job 5 0 3", "told 6 : 3", "renew 0 4 1", "told 6 : 2", "renew 0 4 3", "told 6 : 0",
            "renew 0 4 9", "told 6 : 0", "renew 1 4 9", "told 6 : 0", "renew 0 4 0", "told 6 : 3", "swap 0",
            "told 6 : 5");
        says("TURN: the last JOB of the PLAN that BEGINS AGAIN as it ARRIVES.",
            "told 7 ! NO", "job 1 1 4", "told 7 : 0", "job 3 1 0", "told 7 : 0", "renew 1 0 4", "told 7 : 1",
            "job 0 0 1", "told 7 : 1", "swap 1", "told 7 : 0", "plan 0", "move 0 2", "swap 0", "told 7 : 0");
    }

    private static void betterAlikeEasy() {
        says("BETTER, ALIKE: how many exchanges of neighbours of the PLAN make its COST less; leave it. PROVED: none makes "
                + "it less.",
            "told 8 ! NO NO NO", "job 3 2 1", "told 8 ! 0 0 1", "set 1 1", "renew 0 0 0", "renew 0 1 0", "renew 0 2 2",
            "job 0 0 2", "told 8 ! 0 1 1", "job 0 0 1", "told 8 ! 1 1 0", "renew 2 2 3", "told 8 ! 0 1 1",
            "renew 1 2 1", "told 8 ! 1 0 0");
        says("EASY: no M is above the least A, or none is above the least B.",
            "told 11 ! NO", "job 0 0 0", "told 11 : 1", "renew 0 1 1", "told 11 : 0", "renew 0 0 1", "told 11 : 1",
            "renew 0 0 0", "renew 0 2 1", "told 11 : 1", "renew 0 1 2", "told 11 : 0");
        says("EASY: no M is above the least A",
            "job 5 5 1", "job 6 4 1", "told 11 : 1", "renew 1 1 6", "told 11 : 0", "renew 1 1 4", "renew 1 0 4",
            "told 11 : 0");
        says("or none is above the least B",
            "job 1 5 5", "job 1 4 6", "told 11 : 1", "renew 1 1 6", "told 11 : 0", "renew 1 1 4", "renew 1 2 4",
            "told 11 : 0");
        // The least A is of one JOB, the least B of another: M is above both, though of each JOB one is as much.
        says("EASY: no M is above the least A, or none is above the least B.",
            "job 5 5 1", "job 1 5 5", "told 11 : 0", "job 5 5 5", "told 11 : 0");
    }

    private static void slack() {
        says("SLACK of a JOB: the greatest r (0 .. 30)",
            "slack 0 ! NONE", "job 5 5 5", "slack 0 ! 30 NONE", "slack -1 ! NONE", "renew 0 0 30", "slack 0 : 30");
        says("such that by no hours 1 .. r more of its A",
            "job 3 2 1", "job 1 4 5", "job 2 0 2", "slack 0 ! 30 30 0 NONE", "renew 2 2 30", "slack 2 : 2",
            "renew 2 1 2", "slack 2 : 0", "renew 2 1 3", "ruled 1 0 : 1 2 0", "slack 2 : 30");
        says("the greatest r (0 .. 30) such that by no hours 1 .. r more",
            "job 0 0 30", "job 29 0 30", "slack 0 : 29", "renew 1 0 30", "slack 0 : 30", "renew 1 0 28",
            "slack 0 : 28");
        says("(they may be above 30 so)",
            "job 30 0 30", "job 30 0 0", "slack 0 : 30", "renew 1 1 30", "slack 0 : 30", "renew 1 2 1", "slack 0 : 0");
        // Job 1 leaves the FIRST LIST by 6 hours more; whether the order is another then hangs on M and B of job 2.
        says("SLACK of a JOB: the greatest r (0 .. 30) such that by no hours 1 .. r more of its A (they may be above 30 so) "
                + "ORDERS by LISTS would be otherwise.",
            "job 2 1 9", "job 4 0 9", "job 9 0 3", "slack 0 ! 1 30 30 NONE", "renew 2 1 7", "slack 0 ! 1 5 30",
            "renew 2 1 6", "slack 0 ! 1 30 30");
        says("(they may be above 30 so)",
            "job 30 30 1", "job 29 0 30", "ruled 1 0 : 1 0", "slack 1 : 1", "renew 0 1 29", "slack 1 : 1",
            "renew 0 1 28", "slack 1 : 30");
    }

    private static void fits() {
        says("SEEN told by hand: a JOB, a place (5 rows at most).",
            "job 1 1 1", "see 0 0 : 1", "see 0 0 : 2", "see 0 5 : 3", "see 0 1 : 4", "see 0 0 : 5", "see 0 0 ! FULL",
            "count 1 : 5");
        says("FITS of a JOB: how many hours 0 .. 30 there are by which, were that its A, all of SEEN stand at these places "
                + "by LISTS; the least",
            "job 5 0 30", "fits 0 0 ! 31 0", "job 29 0 30", "fits 0 0 ! 31 0", "see 0 1 : 1", "fits 0 0 ! 1 30",
            "renew 0 0 0", "fits 0 0 ! 1 30", "see 1 0 : 2", "fits 0 0 ! 1 30");
        says("FITS of a JOB: how many hours 0 .. 30 there are by which, were that its A",
            "job 1 0 30", "job 5 0 30", "see 1 0 : 1", "fits 1 0 ! 1 0", "see 1 0 : 2", "fits 1 0 ! 1 0",
            "fits 0 0 ! 25 6");
        says("the least (-5: none)",
            "job 1 0 30", "job 5 0 30", "see 1 0 : 1", "see 0 0 : 2", "fits 1 0 ! 0 -5", "see -1 0 : 0",
            "see 0 2 : 1", "fits 0 0 ! 0 -5", "see -1 0", "see 0 5 : 1", "fits 0 0 ! 0 -5", "fits 1 0 ! 0 -5");
        // With 0 .. 5 hours it is of the FIRST LIST, beyond that behind the other by M and B.
        says("stand at these places by LISTS",
            "job 9 0 5", "job 9 9 9", "see 0 0 : 1", "fits 0 0 ! 6 0", "see -1 0", "see 0 1 : 1", "fits 0 0 ! 25 6");
    }

    private static void oddsAndMean() {
        says("ODDS of a JOB: were its A 0, 1, .. 9, each alike likely: how likely it is the first by BEST of MODE, AIM",
            "odds 0 0 ! NO NO", "job 30 0 0", "odds 0 0 ! 1 1 NO", "set 1 1", "job 9 0 0", "odds 0 0 ! 1 1 NO",
            "odds 1 0 ! 1 1", "renew 0 0 9", "odds 1 0 ! 9 10 NO", "renew 0 0 0", "odds 1 0 ! 0 1");
        says("a fraction in lowest terms",
            "set 1 1", "job 5 0 0", "job 0 0 0", "odds 1 0 ! 1 2", "renew 0 0 4", "odds 1 0 ! 2 5", "renew 0 0 8",
            "odds 1 0 ! 4 5", "renew 0 0 3", "odds 1 0 ! 3 10", "odds 0 0 ! 1 10", "renew 1 0 9", "odds 0 0 ! 1 1");
        // By WAY 1 0 ends an hour earlier; by ROOM, with no A at all, both orders end at 12.
        says("the first by BEST of MODE, AIM",
            "job 0 10 1", "job 0 1 1", "odds 0 0 : 0 1", "set 0 1", "odds 0 0 : 1 10");
        says("MEAN: all ENDS of the PLAN, by how many JOBS there are: a fraction in lowest terms (NO: none).",
            "mean 0 ! NO NO", "job 0 0 0", "mean 0 ! 0 1 NO", "job 0 0 0", "mean 0 ! 0 1", "renew 1 2 1",
            "mean 0 ! 1 2", "renew 1 2 2", "mean 0 ! 1 1", "job 0 0 0", "mean 0 ! 4 3", "renew 2 2 2",
            "mean 0 ! 2 1", "job 0 0 0", "mean 0 ! 5 2", "move 3 0", "mean 0 ! 3 2");
    }

    private static void eventsAndAfter() {
        says("0 A of JOB n is 1 more, 1 B (30 at most, both)",
            "job 28 0 28", "after 0 : 56", "event 0 0 : 1", "after 0 ! 57 57", "event 1 0 : 2", "after 0 ! 58 58",
            "event 0 0 : 3", "event 0 0 : 4", "after 0 ! 59 59", "event 1 0 : 5", "event 1 0 : 6", "after 0 ! 60 60",
            "of 0 0 : 28 0 28", "renew 0 0 30", "renew 0 2 30", "after 0 ! 60 60");
        says("2 MODE is n",
            "job 0 10 1", "job 0 1 1", "after 0 : 12 11", "event 2 1 : 1", "after 0 ! 12 12", "event 2 2 : 2",
            "after 0 ! 12 11", "event 2 0 : 3", "event 2 3 ! BAD", "event 2 -1 ! BAD", "told 1 : 0");
        says("3 M of JOB n is 0",
            "job 1 9 1", "event 3 0 : 1", "after 0 ! 2 2", "event 3 0 : 2", "after 0 ! 2 2", "of 0 1 : 9",
            "renew 0 1 0", "after 0 ! 2 2");
        says("8 rows at most",
            "job 0 0 0", "event 0 0 : 1", "event 1 0 : 2", "event 0 0 : 3", "event 1 0 : 4", "event 0 0 : 5",
            "event 1 0 : 6", "event 0 0 : 7", "event 0 0 : 8", "event 0 0 ! FULL", "event 2 0 ! FULL", "count 2 : 8",
            "after 0 : 8 8");
        says("AFTER, behind all of it: COST of the PLAN; COST of BEST by MODE, AIM then.",
            "after 0 ! NO NO", "job 0 0 2", "job 0 0 1", "set 1 1", "after 0 ! 5 4 NO", "event 1 1 : 1",
            "after 0 ! 6 6", "event 1 1 : 2", "after 0 ! 7 7", "swap 0", "after 0 ! 8 7", "set 1 2",
            "after 0 ! -94 -94", "event -1 0 : 0", "after 0 ! -96 -96");
        says("EVENTS told by hand: what happens",
            "event 2 1 : 1", "after 0 ! NO NO", "job 0 10 1", "job 0 1 1", "after 1 : 12", "image", "event -1 0",
            "after 1 : 11", "undo", "after 1 : 12");
    }

    private static void books() {
        says("A BOOK told by hand: JOBS, places (8 rows at most): LOOKED at: the number (from 0) of the first of these rows "
                + "that is otherwise in the PLAN (-5: none).",
            "looked ! -5", "job 0 0 0", "book 0 0 : 1", "book 0 0 : 2", "book 0 0 : 3", "book 0 0 : 4", "book 0 0 : 5",
            "book 0 0 : 6", "book 0 0 : 7", "looked ! -5", "book 0 1 : 8", "looked ! 7", "book 0 0 ! FULL",
            "book -1 0 : 0", "looked ! -5");
        says("the number (from 0) of the first of these rows that is otherwise in the PLAN (-5: none)",
            "job 0 0 0", "job 0 0 0", "book 0 1 : 1", "book 1 1 : 2", "looked ! 0", "swap 0", "looked ! 1",
            "book -1 0", "book 1 0 : 1", "book 0 1 : 2", "looked ! -5", "job 0 0 0", "looked ! -5", "move 2 1",
            "looked ! 1", "book -1 0", "book 0 5 : 1", "looked ! 0");
    }

    private static void theImage() {
        says("THE IMAGE: JOBS, MODE, AIM, the PLAN, SEEN, EVENTS, the BOOK.",
            "image : 0", "job 1 1 1", "see 0 0", "event 0 0", "book 0 0", "set 0 1", "set 1 1", "undo : 0",
            "count 0 : 0 0 0 0", "told 0 : 0 0 0", "at 0 : NONE", "undo ! 0");
        says("THE IMAGE: JOBS, MODE, AIM, the PLAN, SEEN, EVENTS, the BOOK.",
            "job 1 2 3", "job 4 5 6", "swap 0", "set 0 2", "set 1 1", "see 1 0", "event 3 1", "book 1 0", "book 0 0",
            "image : 2", "renew 0 0 9", "renew 0 1 9", "renew 0 2 9", "renew 1 3 9", "renew 1 4 9", "renew 1 5 9",
            "plan 0", "set 0 1", "set 1 2", "see -1 0", "see 0 0", "event -1 0", "event 2 0", "book -1 0", "book 0 0",
            "undo : 2", "of 0 0 : 1 2 3 0 0 99 1", "of 1 0 : 4 5 6 0 0 99 0", "told 1 : 2 1", "count 1 : 1 1 2",
            "looked : 1", "fits 0 0 : 27 4", "after 0 : 23");
    }

    private static void tapesAndJudging() {
        says("TAPES 0 .. 5 hold nothing (at first)",
            "peek 0 0 ! NO", "peek 5 0 ! NO", "item 0 0 1 ! NOTHING", "item 5 0 1 ! NOTHING", "peek 6 0 ! NO",
            "peek -1 0 ! NO", "item 6 0 1 ! NONE", "item -1 0 1 ! NONE", "tape 0 0 1 : 1", "tape 5 0 1 : 1",
            "tape 6 0 1 ! NONE", "tape -1 0 1 ! NONE");
        says("TAPES 0 .. 5 hold nothing (at first), or a row of 0 bytes, 1 shorts, 2 ints, 3 longs, 4 booleans (items 0, 1).",
            "tape 0 0 2", "tape 1 1 2", "tape 2 2 2", "tape 3 3 2", "tape 4 4 2", "item 0 0 127", "item 0 1 128",
            "peek 0 0 : 127 -128 NO", "item 1 0 32767", "item 1 1 32768", "peek 1 0 : 32767 -32768 NO",
            "item 2 0 2147483647", "item 2 1 2147483648", "peek 2 0 : MOST LEAST NO", "item 3 0 9223372036854775807",
            "item 3 1 -9223372036854775808", "peek 3 0 : 9223372036854775807 -9223372036854775808 NO", "item 4 0 2",
            "peek 4 0 : 1 0 NO");
        // ENDS 6, 13, 15.
        says("ENDS told by a row of shorts, from a place on, place by place of the PLAN, are JUDGED: the first place that "
                + "has others; -5: none",
            "job 3 2 1", "job 1 4 5", "job 2 0 2", "tape 0 1 5", "item 0 1 6", "item 0 2 13", "item 0 3 15",
            "judge 0 1 ! -5", "item 0 3 14", "judge 0 1 ! 2", "item 0 2 14", "judge 0 1 ! 1", "item 0 1 7",
            "judge 0 1 ! 0", "swap 0", "item 0 1 10", "item 0 2 11", "item 0 3 13", "judge 0 1 ! -5");
        says("100 and how many were looked at, if the row ends ahead of that (or the place is below 0, or the TAPE holds "
                + "nothing)",
            "job 3 2 1", "job 1 4 5", "job 2 0 2", "judge 0 0 ! 100 100", "judge 0 -1 ! 100 100", "tape 0 1 0",
            "judge 0 0 ! 100 100", "judge 0 -1 ! 100", "tape 0 1 2", "item 0 0 6", "item 0 1 13", "judge 0 0 ! 102",
            "judge 0 2 ! 100 100", "judge 0 -1 ! 100", "judge 0 LEAST ! 100", "judge 0 MOST ! 100", "judge 0 1 ! 0",
            "item 0 1 6", "judge 0 1 ! 101", "judge 0 0 ! 1");
        says("JUDGED",
            "job 0 0 0", "tape 5 1 60", "judge 5 59 ! -5 100", "judge 5 0 ! -5", "item 5 59 1", "judge 5 59 ! 0");
        says("The host's refusals: NOTHING (-11): nothing is there; CAST (-12): another sort; PLACE (-13): no such place; SIZE "
                + "(-14): a size below 0.",
            "item 0 0 0 ! -11", "tape 0 2 1", "judge 0 0 ! -12", "item 0 1 0 ! -13", "tape 0 2 -1 ! -14");
    }

    private static void numbersOfTheAnswers() {
        says("Answers: NONE (-1) no such number; BAD (-2) a number is not as told; STATE (-3) as told; FULL (-4); the first "
                + "that a call's words name.",
            "of 0 0 ! -1", "job 0 0 31 ! -2", "plan 4 ! -2", "plan 0 ! -3", "step 0 1 ! -3", "undo ! -3", "job 0 0 0",
            "job 0 0 0", "job 0 0 0", "job 0 0 0", "job 0 0 0", "job 0 0 0", "job 0 0 0 ! -4", "job 31 0 0 ! -2",
            "move 6 6 ! -1", "move 5 6 ! -2", "renew 6 0 31 ! -1", "renew 5 0 31 ! -2");
        says("The constants: `NO = Long.MIN_VALUE`: There is no such number.",
            "time 0 0 ! -9223372036854775808", "told 3 ! -9223372036854775808", "would 0 ! -9223372036854775808",
            "cost 0 0 0 ! -9223372036854775808", "least 0 0 ! -9223372036854775808", "odds 0 0 ! -9223372036854775808",
            "mean 0 ! -9223372036854775808", "after 0 ! -9223372036854775808", "peek 0 0 ! -9223372036854775808");
    }

    /** Each pair of refusals that one call can meet at once. */
    private static void theFirstNamed() {
        says("the first that a call's words name. What is answered so changes nothing",
            FILLED, "job 31 0 0 ! BAD", "job 0 0 0 ! FULL", "feed 128 ! BAD", "feed 0 ! FULL", "see 6 6 ! NONE",
            "see 0 6 ! BAD", "see 0 0 ! FULL", "see 6 0 ! NONE", "book 6 6 ! NONE", "book 0 6 ! BAD", "book 0 0 ! FULL",
            "book 6 0 ! NONE", "event 4 6 ! NONE", "event 0 6 ! NONE", "event 2 3 ! BAD", "event 2 0 ! FULL",
            "event 3 0 ! FULL");
        says("the first that a call's words name",
            SOME, "renew 4 6 -1 ! NONE", "renew 4 0 31 ! NONE", "renew 0 6 31 ! NONE", "renew 0 5 100 ! BAD",
            "set 2 3 ! NONE", "set 0 3 ! BAD", "move 4 4 ! NONE", "move 0 4 ! BAD", "best 3 0 4 ! BAD",
            "best 0 3 -1 ! BAD", "best 0 0 4 ! NONE", "tape 6 5 -1 ! NONE", "tape 0 5 -1 ! BAD", "tape 0 5 61 ! BAD",
            "tape 0 4 61 ! BAD", "tape 0 4 -1 ! SIZE", "item 6 -1 0 ! NONE", "item 5 -1 0 ! NOTHING",
            "item 0 -1 0 ! PLACE");
        says("the first that a call's words name",
            "plan 4 ! BAD", "plan 0 ! STATE", "step 3 0 ! BAD", "step 0 101 ! BAD", "step 0 0 ! STATE",
            "best 3 0 0 ! BAD", "best 0 0 0 ! NONE", "tape 0 2 3", "judge 6 0 ! NONE", "judge 0 0 ! CAST",
            "judge 1 -1 ! -5", "tape 1 3 3", "shift 6 -1 5 0 0 ! NONE", "shift 0 -1 6 0 0 ! NONE",
            "shift 5 -1 0 0 0 ! NOTHING", "shift 0 -1 5 0 0 ! NOTHING", "shift 0 -1 1 0 0 ! CAST",
            "shift 0 -1 0 0 0 ! PLACE");
    }

    static void all() {
        changesNothing();
        best();
        boundWaitedTurn();
        betterAlikeEasy();
        slack();
        fits();
        oddsAndMean();
        eventsAndAfter();
        books();
        theImage();
        tapesAndJudging();
        numbersOfTheAnswers();
        theFirstNamed();
    }

    public static void main(String[] args) {
        all();
        end("AskedTests");
    }
}
