/**
 * The sentences of promises 1 to 36 that name a boundary: nothing there, one, all there can be, a number below, at and
 * above what is told, a call that is refused. SOME and FILLED tell what the runs that begin with them stand on.
 */
public final class EdgeTests extends Sentences {

    private static void newObjectAndJob() {
        says("No JOBS.",
            "count 0 ! 0 0 0 0 0", "told 0 ! 0 0 0 NO", "at 0 ! NONE", "of 0 0 ! NONE", "looked ! -5", "undo ! STATE",
            "read ! -10", "peek 0 0 ! NO");
        says("A JOB: its number.",
            "job 0 0 0 : 0", "swap 0 ! NONE", "job 30 30 30 : 1", "swap 0", "image", "job 1 1 1 : 2", "undo",
            "job 1 1 1 : 2");
        says("BAD: a, m, b; FULL: 6.",
            SOME, "job -1 0 0 ! BAD", "job 0 -1 0 ! BAD", "job 0 0 -1 ! BAD", "job 31 0 0 ! BAD", "job 0 31 0 ! BAD",
            "job 0 0 31 ! BAD", "job LEAST MOST LEAST ! BAD", "job 0 0 0 : 4", "job 30 30 30 : 5", "job 0 0 0 ! FULL");
        says("FULL: 6.", FILLED, "job 0 0 0 ! FULL", "job 30 30 30 ! FULL", "job 31 0 0 ! BAD", "job 0 0 -1 ! BAD");
    }

    private static void renewAndOf() {
        says("Of a JOB what 0 A, 1 M, 2 B, 3 CLEANING of the first, 4 of the second hall, 5 DUE becomes v: what it was.",
            "job 4 5 6", "job 1 1 1", "time 0 0 : 0 4 4 9 9 15 -84", "renew 0 0 7 : 4", "time 0 1 : 7 7 12 12 18 -81",
            "renew 0 1 2 : 5", "time 0 1 : 7 7 9 9 15 -84", "renew 0 2 3 : 6", "time 0 4 : 9 12 -87",
            "time 1 0 : 7 8 8 9 12 13", "renew 0 3 9 : 0", "time 1 0 : 16 17 17 18 18 19", "renew 0 4 8 : 0",
            "time 1 0 : 16 17 17 18 20 21", "renew 0 5 10 : 99", "time 0 6 : 2");
        says("becomes v: what it was.",
            "job 1 2 3", "renew 0 0 1 ! 1", "renew 0 5 99 ! 99", "renew 0 0 0 : 1", "renew 0 1 30 : 2",
            "renew 0 2 29 : 3", "renew 0 3 9 : 0", "renew 0 4 8 : 0", "renew 0 5 0 : 99", "of 0 0 : 0 30 29 9 8 0 0");
        says("NONE: job, what; BAD: v.",
            "renew 0 0 0 ! NONE", SOME, "renew 4 0 0 ! NONE", "renew -1 0 0 ! NONE", "renew 0 6 0 ! NONE",
            "renew 0 -1 0 ! NONE", "renew 3 0 31 ! BAD", "renew 3 1 31 ! BAD", "renew 3 2 31 ! BAD",
            "renew 3 3 10 ! BAD", "renew 3 4 10 ! BAD", "renew 3 5 100 ! BAD", "renew 3 0 -1 ! BAD",
            "renew 3 3 -1 ! BAD", "renew 3 4 -1 ! BAD", "renew 3 5 -1 ! BAD", "renew MOST LEAST MOST ! NONE",
            "renew 3 5 MOST ! BAD", "renew 3 5 LEAST ! BAD");
        says("NONE: job, what; BAD: v.", FILLED, "renew 6 0 0 ! NONE", "renew 5 6 0 ! NONE", "renew 5 4 10 ! BAD",
            "renew 5 4 9 ! 9");
        says("Of a JOB what 0 .. 5 likewise, 6 its place in the PLAN. NONE.",
            "of 0 6 ! NONE", SOME, "of 3 0 ! 2 5 3 0 0 99 1 NONE", "of 0 6 ! 0", "of 2 6 ! 3", "of 4 6 ! NONE",
            "of -1 0 ! NONE", "of 0 -1 ! NONE", "of 0 MOST ! NONE", "of LEAST 0 ! NONE");
        says("6 its place in the PLAN", FILLED, "of 5 6 ! 0 NONE", "of 3 6 ! 1", "of 4 6 ! 5", "of 6 6 ! NONE");
    }

    private static void setFeedRead() {
        says("MODE (what 0), AIM (1) becomes v: what it was. NONE: what; BAD: v.",
            SOME, "set 0 2 ! 2", "set 1 2 ! 2", "set 0 3 ! BAD", "set 0 -1 ! BAD", "set 1 3 ! BAD", "set 1 -1 ! BAD",
            "set 2 0 ! NONE", "set -1 0 ! NONE", "set MOST 9 ! NONE", "set 0 LEAST ! BAD", "set 0 0 : 2", "set 1 0 : 2",
            "told 1 : 0 0");
        says("A sign (0 .. 127) comes behind THE TEXT's: how many it has. BAD; FULL.",
            "feed -1 ! BAD", "feed 128 ! BAD", "feed MOST ! BAD", "feed LEAST ! BAD", "feed 0 : 1", "feed 127 : 2",
            "count 4 : 2", "read : -10");
        says("comes behind THE TEXT's",
            SOME, "feed 128 ! BAD", "feed 59 : 22", "feed 109 : 23", "feed 48 : 24", "read : 6", "told 1 : 0");
        says("BAD; FULL.", FILLED, "feed 48 ! FULL", "feed 0 ! FULL", "feed 127 ! FULL", "feed -1 ! BAD", "feed 128 ! BAD");
        says("THE TEXT, which is empty then (by a FAULT, too), is a set-up: how many CLAUSES were done; -10 less the FAULT.",
            "read ! -10", "text m1;x : 4", "read : -13", "count 4 : 0", "read ! -10", "text m1 : 2", "read : 1",
            "count 4 : 0", "read ! -10", "text j31,0,0 : 7", "read : 0", "count 4 : 0", "told 0 : 0 1");
        says("how many CLAUSES were done; -10 less the FAULT",
            "read m9 : 0", "read m9;m0 : 1", "read m : -11", "read x : -10", "read j1,1,1;j1,1,1;j1,1,1;j1,1,1;"
                + "j1,1,1;j1,1,1;j1,1,1;m2;j1,1,1 : 7", "count 0 : 6", "told 1 : 2");
    }

    private static void planMoveSwap() {
        says("The PLAN becomes ORDERS by a RULE. BAD. STATE: no JOBS. Else how many JOBS stand elsewhere than before.",
            "plan 0 ! STATE", "plan 3 ! STATE", "plan -1 ! BAD", "plan 4 ! BAD", "job 0 0 0", "plan 0 ! 0",
            "plan 1 ! 0", "plan 2 ! 0", "plan 3 ! 0", "plan 4 ! BAD", "plan LEAST ! BAD");
        says("Else how many JOBS stand elsewhere than before.",
            SOME, "plan 4 ! BAD", "plan -1 ! BAD", "plan 1 : 3", "at 0 : 1 0 3 2", "plan 1 ! 0", "plan 2 : 4",
            "at 0 : 2 3 0 1", "plan 3 : 3", "at 0 : 2 0 1 3", "plan 0 : 3", "at 0 : 0 1 2 3", "plan 0 ! 0");
        says("A JOB comes to a place of the PLAN; all others keep their order: the place it had. NONE: job; BAD: place.",
            "move 0 0 ! NONE", "move -1 0 ! NONE", "job 0 0 0", "move 0 0 ! 0", "move 0 1 ! BAD", "move 0 -1 ! BAD",
            "move 1 0 ! NONE");
        says("A JOB comes to a place of the PLAN; all others keep their order: the place it had.",
            SOME, "move 3 1 ! 1", "move 4 0 ! NONE", "move 0 4 ! BAD", "move 0 -1 ! BAD", "move 0 MOST ! BAD",
            "move LEAST 0 ! NONE", "move 0 3 : 0", "at 0 : 3 1 2 0", "move 0 0 : 3", "at 0 : 0 3 1 2", "move 2 1 : 3",
            "at 0 : 0 2 3 1", "move 2 2 : 1", "at 0 : 0 3 2 1 NONE");
        says("BAD: place.", FILLED, "move 5 5 : 0", "at 0 : 3 0 1 2 4 5", "move 0 6 ! BAD", "move 6 0 ! NONE");
        says("The JOBS at places k, k + 1 are exchanged: the one that is at k now. NONE: k, or k + 1 isn't there.",
            "swap 0 ! NONE", "swap -1 ! NONE", "job 0 0 0", "swap 0 ! NONE", "swap -1 ! NONE", "job 0 0 0", "swap 0 : 1",
            "at 0 : 1 0", "swap 1 ! NONE");
        says("NONE: k, or k + 1 isn't there.",
            SOME, "swap 2 : 2", "at 0 : 0 3 2 1", "swap 3 ! NONE", "swap 4 ! NONE", "swap -1 ! NONE", "swap MOST ! NONE",
            "swap LEAST ! NONE", "swap 0 : 3", "at 0 : 3 0 2 1");
        says("k + 1 isn't there.", FILLED, "swap 4 : 4", "at 0 : 5 3 0 1 4 2", "swap 5 ! NONE");
    }

    private static void stepAtTime() {
        says("STEPS by a MANNER, n at most (0 .. 100): how many there were. BAD: manner, n; STATE: no JOBS.",
            "step 0 0 ! STATE", "step 2 100 ! STATE", "step 3 0 ! BAD", "step -1 0 ! BAD", "step 0 101 ! BAD",
            "step 0 -1 ! BAD", "job 3 2 1", "step 0 100 ! 0", "step 1 100 ! 0", "step 2 100 ! 0", "step 0 0 ! 0");
        // PLAN 0 3 1 2 has COST 8 by LATE; only 1, 2 exchanged make it less (-3); the least is -10 with 2 first.
        says("n at most (0 .. 100): how many there were.",
            SOME, "step 0 0 ! 0", "step 1 0 ! 0", "step 2 0 ! 0", "step 3 1 ! BAD", "step 0 101 ! BAD",
            "step 0 -1 ! BAD", "step MOST LEAST ! BAD", "step 1 1 : 1", "at 0 : 0 3 2 1", "told 3 : -3", "step 2 1 : 1",
            "at 0 : 2 0 3 1", "told 3 : -10", "step 2 100 ! 0", "step 0 100 ! 0");
        says("STEPS by a MANNER, n at most (0 .. 100)",
            "job 0 0 6", "job 0 0 5", "job 0 0 4", "job 0 0 3", "job 0 0 2", "job 0 0 1", "set 1 1", "image",
            "step 0 14 : 14", "told 3 : 57", "step 0 100 : 1", "at 0 : 5 4 3 2 1 0", "told 3 : 56", "undo",
            "step 0 100 : 15", "undo", "step 1 100 : 15", "undo", "step 2 100 : 5", "at 0 : 5 4 3 2 1 0");
        says("The JOB at a place of the PLAN. NONE.",
            "at 0 ! NONE", "job 0 0 0", "at 0 ! 0 NONE", "at -1 ! NONE", "at MOST ! NONE", "at LEAST ! NONE");
        says("The JOB at a place of the PLAN. NONE.", FILLED, "at 0 ! 5 3 0 1 2 4 NONE", "at -1 ! NONE");
        says("6 LATENESS. NO: job, what.",
            "time 0 0 ! NO", "job 0 0 0", "time 0 0 ! 0 0 0 0 0 0 -99 NO", "time 0 -1 ! NO", "time 1 0 ! NO",
            "time -1 0 ! NO", "time 0 MOST ! NO", "time LEAST 0 ! NO");
        says("Of a JOB by the PLAN what 0 BEGINS, 1 DONE, 2 LEAVES, 3 ARRIVES, 4 BEGINS AGAIN, 5 ENDS, 6 LATENESS.",
            "set 0 2", "job 1 1 9", "job 3 2 1", "renew 1 5 5", "time 0 0 ! 0 1 1 2 2 11 -88 NO",
            "time 1 0 ! 1 4 9 6 11 12 7 NO");
        says("Of a JOB by the PLAN",
            SOME, "time 0 0 ! 0 4 4 6 6 12 -87 NO", "time 3 0 ! 5 7 7 12 12 15 -84 NO",
            "time 1 0 ! 7 10 14 11 15 24 -75 NO", "time 2 0 ! 14 22 26 22 26 28 8 NO", "time 4 0 ! NO");
    }

    private static void toldWould() {
        says("NO: what; from 3 on: no JOBS.",
            "told -1 ! NO", "told 0 ! 0 0 0 NO NO NO NO NO NO NO NO NO NO NO", "told MOST ! NO", "told LEAST ! NO",
            "set 0 1", "set 1 2", "told 0 : 0 1 2 NO");
        says("What 0 JOBS, 1 MODE, 2 AIM, 3 COST of the PLAN, 4 its latest ENDS",
            "job 5 3 4", "told 0 ! 1 0 0 12 12 12 8 0 0 0 1 1 0 NO", "set 1 2", "told 3 ! -87 12", "told -1 ! NO");
        says("5 BOUND, 6 WAITED, 7 TURN, 8 BETTER, 9 ALIKE, 10 PROVED, 11 EASY (1, 0), 12 how many the FIRST LIST has.",
            SOME, "told 0 ! 4 2 2 8 28 24 6 3 1 1 0 0 3 NO", "swap 2", "told 3 : -3", "set 1 0",
            "told 0 : 4 2 0 28");
        says("12 how many the FIRST LIST has.",
            "told 12 ! NO", "job 1 0 0", "told 12 : 0", "job 0 0 0", "told 12 : 1", "renew 0 2 1", "told 12 : 2");
        says("What COST the PLAN would have, were the JOBS at places k, k + 1 exchanged. NO: k, or k + 1 isn't there.",
            "would 0 ! NO", "would -1 ! NO", "job 0 0 2", "would 0 ! NO", "job 0 0 1", "set 1 1", "told 3 : 5",
            "would 0 ! 4 NO", "would -1 ! NO", "would MOST ! NO", "would LEAST ! NO", "set 1 0", "would 0 ! 3");
        says("NO: k, or k + 1 isn't there.", SOME, "would 0 ! 9 8 -3 NO NO", "would -1 ! NO");
        says("NO: k, or k + 1 isn't there.", FILLED, "would 5 ! NO NO", "would -1 ! NO");
    }

    private static void ruledCost() {
        says("The JOB at a place by ORDERS of a RULE. NONE: rule, place.",
            "ruled 0 0 ! NONE", "ruled 3 0 ! NONE", "job 9 9 9", "ruled 0 0 ! 0 NONE", "ruled 1 0 ! 0 NONE",
            "ruled 2 0 ! 0 NONE", "ruled 3 0 ! 0 NONE", "ruled 4 0 ! NONE", "ruled -1 0 ! NONE", "ruled 0 -1 ! NONE",
            "ruled MOST MOST ! NONE", "ruled LEAST LEAST ! NONE");
        says("The JOB at a place by ORDERS of a RULE.",
            FILLED, "ruled 0 0 ! 0 1 2 3 4 5 NONE", "ruled 1 0 ! 0 1 3 4 2 5 NONE", "ruled 2 0 ! 5 3 0 1 2 4 NONE",
            "ruled 3 0 ! 0 1 2 3 4 5 NONE", "ruled 4 0 ! NONE");
        says("COST of ORDERS by a RULE, by a MODE and an AIM. NO: rule, mode, aim; no JOBS.",
            "cost 0 0 0 ! NO", "cost 3 2 2 ! NO", "job 5 3 4", "cost 0 0 0 ! 12 12 -87 NO", "cost 3 2 0 ! 12 12 -87 NO",
            "cost -1 0 0 ! NO", "cost 4 0 0 ! NO", "cost 0 -1 0 ! NO", "cost 0 3 0 ! NO", "cost 0 0 -1 ! NO",
            "cost MOST 0 0 ! NO", "cost 0 LEAST 0 ! NO", "cost 0 0 MOST ! NO");
        says("COST of ORDERS by a RULE, by a MODE and an AIM.",
            SOME, "cost 1 0 0 ! 26 84 6 NO", "cost 4 0 0 ! NO", "told 1 : 2 2", "at 0 : 0 3 1 2");
    }

    private static void leastBestSlack() {
        says("COST of BEST. NO: mode, aim; no JOBS.",
            "least 0 0 ! NO", "least 2 2 ! NO", "job 5 3 4", "least 0 0 ! 12 12 -87 NO", "least 2 0 ! 12 12 -87 NO",
            "least -1 0 ! NO", "least 3 0 ! NO", "least 0 -1 ! NO", "least MOST 0 ! NO", "least 0 LEAST ! NO");
        says("The JOB at a place by BEST. BAD: mode, aim; NONE: place.",
            "best 0 0 0 ! NONE", "best 3 0 0 ! BAD", "best 0 3 0 ! BAD", "job 0 0 0", "best 0 0 0 ! 0 NONE",
            "best 2 2 -1 ! NONE", "best -1 0 0 ! BAD", "best 0 -1 0 ! BAD", "best 3 0 0 ! BAD", "best 0 3 0 ! BAD",
            "best MOST 0 -1 ! BAD", "best 0 LEAST 9 ! BAD", "best 0 0 MOST ! NONE", "best 0 0 LEAST ! NONE");
        says("The JOB at a place by BEST.", SOME, "best 2 2 0 ! 2 0 1 3 NONE", "best 2 2 -1 ! NONE", "at 0 : 0 3 1 2");
        says("COST of BEST.",
            "job 0 0 6", "job 0 0 5", "job 0 0 4", "job 0 0 3", "job 0 0 2", "job 0 0 1", "least 0 0 : 21 56 -78 NO",
            "best 0 1 0 : 5 4 3 2 1 0 NONE", "best 0 0 0 : 0 1 2 3 4 5 NONE");
        says("SLACK. NONE.",
            "slack 0 ! NONE", "slack -1 ! NONE", "job 30 30 30", "slack 0 ! 30 NONE", "slack -1 ! NONE",
            "slack MOST ! NONE", "slack LEAST ! NONE");
        says("SLACK. NONE.", SOME, "slack 0 ! 1 1 30 30 NONE", "slack -1 ! NONE");
    }

    private static void seeFits() {
        says("What is SEEN comes: how many there are (job -1: none then, 0, whatever the rest is).",
            "see -1 -1 ! 0", "see 0 0 ! NONE", "job 0 0 0", "see 0 0 : 1", "see 0 5 : 2", "see -1 MOST : 0",
            "count 1 : 0", "see 0 5 : 1", "see -1 LEAST : 0", "see -1 0 ! 0");
        says("NONE: job; BAD: place (0 .. 5); FULL: 5.",
            SOME, "see 4 0 ! NONE", "see -2 0 ! NONE", "see LEAST 0 ! NONE", "see MOST 0 ! NONE", "see 0 6 ! BAD",
            "see 0 -1 ! BAD", "see 0 MOST ! BAD", "see 3 5 : 3", "see 3 4 : 4", "see 0 0 : 5", "see 0 0 ! FULL",
            "see 0 6 ! BAD", "see 4 0 ! NONE", "count 1 : 5");
        says("FULL: 5.", FILLED, "see 0 0 ! FULL", "see 5 5 ! FULL", "see -1 6 : 0", "count 1 : 0 8 8 100",
            "see 5 5 : 1");
        says("FITS: what 0 how many, 1 the least; -5. NONE: job, what.",
            "fits 0 0 ! NONE", "job 0 0 0", "fits 0 0 ! 31 0 NONE", "fits 0 -1 ! NONE", "fits 1 0 ! NONE",
            "fits -1 0 ! NONE", "fits MOST 0 ! NONE", "fits 0 LEAST ! NONE", "see 0 0", "fits 0 0 ! 31 0",
            "see 0 1", "fits 0 0 ! 0 -5 NONE");
    }

    private static void oddsMean() {
        // Two without hours end alike in both orders: the least number is the first, whatever its own A.
        says("ODDS; part 0 above, 1 below the line. NO: job, part.",
            "odds 0 0 ! NO", "job 0 0 0", "odds 0 0 ! 1 1 NO", "odds 0 -1 ! NO", "odds 1 0 ! NO", "odds -1 0 ! NO",
            "odds MOST 0 ! NO", "odds 0 LEAST ! NO", "job 0 0 0", "odds 0 0 ! 1 1", "odds 1 0 ! 0 1", "odds 2 0 ! NO");
        says("ODDS; part 0 above, 1 below the line.", SOME, "odds 0 0 ! 0 1 NO", "odds 2 0 ! 1 1 NO", "odds 4 0 ! NO");
        says("MEAN; part likewise. NO.",
            "mean 0 ! NO NO NO", "mean -1 ! NO", "job 1 1 1", "mean 0 ! 3 1 NO", "mean -1 ! NO", "mean MOST ! NO",
            "mean LEAST ! NO", "job 1 1 1", "mean 0 ! 7 2 NO");
        says("MEAN; part likewise.", FILLED, "mean 2 ! NO", "mean -1 ! NO");
    }

    private static void eventAfter() {
        says("A row comes to EVENTS: how many there are (what -1: none then, 0, whatever the rest is).",
            "event -1 -1 ! 0", "event 0 0 ! NONE", "event 1 0 ! NONE", "event 3 0 ! NONE", "event 2 0 : 1",
            "event -1 MOST : 0", "count 2 : 0", "event 2 2 : 1", "event -1 LEAST : 0", "event -1 3 ! 0");
        says("NONE: what (0 .. 3), JOB n; BAD: MODE n; FULL: 8.",
            SOME, "event -2 0 ! NONE", "event 4 0 ! NONE", "event LEAST 0 ! NONE", "event MOST 0 ! NONE",
            "event 0 4 ! NONE", "event 1 4 ! NONE", "event 3 4 ! NONE", "event 0 -1 ! NONE", "event 1 -1 ! NONE",
            "event 3 -1 ! NONE", "event 2 3 ! BAD", "event 2 -1 ! BAD", "event 2 MOST ! BAD", "event 4 3 ! NONE",
            "event 0 3 : 4", "event 1 3 : 5", "event 3 3 : 6", "event 2 2 : 7", "event 2 0 : 8", "event 2 1 ! FULL",
            "event 0 0 ! FULL", "event 2 3 ! BAD", "event 0 4 ! NONE");
        says("FULL: 8.", FILLED, "event 0 0 ! FULL", "event -1 9 : 0", "count 2 : 0 8 100", "event 3 5 : 1");
        says("AFTER: what 0 COST of the PLAN, 1 of BEST. NO: what; no JOBS.",
            "after 0 ! NO NO", "event 2 2", "after 0 ! NO NO", "job 5 3 4", "after 0 ! 12 12 NO", "after -1 ! NO",
            "after MOST ! NO", "after LEAST ! NO");
        says("AFTER: what 0 COST of the PLAN, 1 of BEST.", SOME, "after 0 ! 8 -10 NO", "told 1 : 2 2 8");
    }

    private static void bookLooked() {
        says("A row comes to the BOOK: how many there are (job -1: none then, 0, whatever the rest is).",
            "book -1 -1 ! 0", "book 0 0 ! NONE", "job 0 0 0", "book 0 0 : 1", "book 0 5 : 2", "book -1 MOST : 0",
            "count 3 : 0", "book 0 5 : 1", "book -1 LEAST : 0", "book -1 0 ! 0");
        says("NONE: job; BAD: place (0 .. 5); FULL: 8.",
            SOME, "book 4 0 ! NONE", "book -2 0 ! NONE", "book LEAST 0 ! NONE", "book MOST 0 ! NONE", "book 0 6 ! BAD",
            "book 0 -1 ! BAD", "book 0 MOST ! BAD", "book 3 5 : 2", "book 3 4 : 3", "book 0 0 : 4", "book 0 0 : 5",
            "book 1 1 : 6", "book 2 2 : 7", "book 2 2 : 8", "book 0 0 ! FULL", "book 0 6 ! BAD", "book 4 0 ! NONE");
        says("FULL: 8.", FILLED, "book 0 0 ! FULL", "book 5 5 ! FULL", "book -1 6 : 0", "count 3 : 0 100", "book 5 5 : 1");
        says("LOOKED at; -5.",
            "looked ! -5", "job 0 0 0", "looked ! -5", "book 0 0", "looked ! -5", "book 0 1", "looked ! 1",
            "book 0 2", "looked ! 1", "book -1 0", "looked ! -5");
        says("LOOKED at; -5.", FILLED, "looked ! 0", "plan 0", "looked ! 6", "book -1 0", "looked ! -5");
    }

    private static void judgeOnTapes() {
        says("(-5: no JOBS, also if it holds nothing; NONE, CAST go ahead of that)",
            "judge 0 0 ! -5", "judge 5 -1 ! -5", "judge 6 0 ! NONE", "judge -1 0 ! NONE", "tape 0 1 0", "judge 0 0 ! -5",
            "tape 0 1 5", "judge 0 9 ! -5", "tape 0 0 5", "judge 0 0 ! CAST", "tape 0 2 5", "judge 0 0 ! CAST",
            "tape 0 3 5", "judge 0 -1 ! CAST", "tape 0 4 0", "judge 0 0 ! CAST", "tape 0 -1 0", "judge 0 0 ! -5");
        says("NONE: tape; CAST: it is no row of shorts.",
            SOME, "judge 6 0 ! NONE", "judge -1 0 ! NONE", "judge MOST 0 ! NONE", "judge LEAST 0 ! NONE",
            "judge 0 0 ! CAST", "judge 2 0 ! CAST", "judge 3 0 ! CAST", "judge 4 0 ! CAST", "judge 4 -1 ! CAST",
            "judge 5 0 ! 100", "judge 1 0 ! 1", "judge 1 4 ! 100", "judge 1 -1 ! 100");
        says("JUDGED from place i of a TAPE on",
            SOME, "item 1 1 15", "item 1 2 24", "judge 1 0 ! 3", "item 1 3 28", "judge 1 0 ! -5", "judge 1 1 ! 0",
            "tape 5 1 3", "shift 1 0 5 0 3", "judge 5 0 ! 103", "tape 5 1 60", "shift 1 0 5 56 4", "judge 5 56 ! -5",
            "judge 5 57 ! 0", "shift 1 0 5 57 3", "judge 5 57 ! 103", "judge 5 60 ! 100 100", "judge 5 MOST ! 100");
    }

    private static void imageUndoCount() {
        says("THE IMAGE is taken: how many JOBS there are.",
            "image : 0", "undo ! 0", "job 0 0 0", "image : 1", "image ! 1", "job 0 0 0", "undo : 1", "count 0 : 1");
        says("THE IMAGE is taken: how many JOBS there are.", SOME, "image : 4", "image ! 4", "undo ! 4", "set 0 0",
            "undo : 4", "told 0 : 4 2 2 8 28 24 6 3 1 1 0 0 3", "count 0 : 4 2 3 1 21");
        says("All is as THE IMAGE (THE TEXT and the TAPES stay as they are): how many JOBS. STATE: there is none.",
            "undo ! STATE", "job 1 1 1", "text m1 : 2", "tape 0 3 1", "undo ! STATE", "image : 1", "text ;a1 : 5",
            "item 0 0 7", "tape 1 1 1", "set 0 2", "undo : 1", "count 4 : 5", "peek 0 0 : 7", "peek 1 0 : 0",
            "told 1 : 0", "read : 2", "told 1 : 1 1", "undo : 1", "told 1 : 0 0");
        says("All is as THE IMAGE", SOME, "undo : 3", "count 0 : 3 1 1 2 21 BAD", "told 0 : 3 1 1", "at 0 : 0 1 2 NONE",
            "looked : -5", "undo ! 3");
        says("How many: 0 JOBS, 1 SEEN, 2 EVENTS, 3 of the BOOK, 4 bytes of THE TEXT. BAD.",
            "count -1 ! BAD", "count 0 ! 0 0 0 0 0 BAD BAD", "count MOST ! BAD", "count LEAST ! BAD", FILLED,
            "count 0 ! 6 5 8 8 100 BAD", "count -1 ! BAD");
    }

    private static void tapeItem() {
        says("A TAPE becomes a row of n (0 .. 60) of a sort, all 0, or holds nothing (sort -1: n does not matter): 1.",
            SOME, "tape 5 -1 0 ! 1", "tape 5 -1 MOST ! 1", "tape 5 -1 LEAST ! 1", "tape 0 -1 61 : 1", "peek 0 0 : NO",
            "item 0 0 1 ! NOTHING", "tape 0 0 60 : 1", "peek 0 59 : 0 NO", "item 0 59 5 : 1", "tape 0 0 60 : 1",
            "peek 0 59 : 0", "tape 0 0 0 : 1", "peek 0 0 : NO", "item 0 0 1 ! PLACE", "tape 0 4 1 : 1", "item 0 0 9",
            "peek 0 0 : 1 NO", "tape 0 3 1 : 1", "peek 0 0 : 0");
        says("NONE: tape; BAD: sort, n above 60; SIZE.",
            SOME, "tape 6 0 0 ! NONE", "tape -1 0 0 ! NONE", "tape 6 -1 0 ! NONE", "tape MOST 0 0 ! NONE",
            "tape LEAST 0 0 ! NONE", "tape 0 5 0 ! BAD", "tape 0 -2 0 ! BAD", "tape 0 MOST 0 ! BAD", "tape 0 0 61 ! BAD",
            "tape 5 4 61 ! BAD", "tape 0 0 MOST ! BAD", "tape 0 0 -1 ! SIZE", "tape 5 4 -1 ! SIZE",
            "tape 0 0 LEAST ! SIZE", "tape 0 5 -1 ! BAD", "tape 0 -2 61 ! BAD");
        says("Item i of a TAPE becomes v (its lowest bits, as many as an item has; booleans: whether v is not 0): 1.",
            "tape 0 0 1", "item 0 0 127 : 1", "peek 0 0 : 127", "item 0 0 128 : 1", "peek 0 0 : -128",
            "item 0 0 255 : 1", "peek 0 0 : -1", "item 0 0 256 : 1", "peek 0 0 : 0", "item 0 0 -129 : 1",
            "peek 0 0 : 127", "tape 0 1 1", "item 0 0 32768 : 1", "peek 0 0 : -32768", "item 0 0 65536 : 1",
            "peek 0 0 : 0", "item 0 0 -32769 : 1", "peek 0 0 : 32767", "tape 0 2 1", "item 0 0 2147483648 : 1",
            "peek 0 0 : LEAST", "item 0 0 4294967296 : 1", "peek 0 0 : 0", "item 0 0 -2147483649 : 1",
            "peek 0 0 : MOST");
        says("as many as an item has; booleans: whether v is not 0",
            "tape 0 3 1", "item 0 0 -9223372036854775808 : 1", "peek 0 0 : -9223372036854775808",
            "item 0 0 9223372036854775807 : 1", "peek 0 0 : 9223372036854775807", "tape 0 4 1", "item 0 0 2 : 1",
            "peek 0 0 : 1", "item 0 0 0 : 1", "peek 0 0 : 0", "item 0 0 -1 : 1", "peek 0 0 : 1", "item 0 0 0",
            "item 0 0 -9223372036854775808 : 1", "peek 0 0 : 1", "item 0 0 0", "item 0 0 4294967296 : 1",
            "peek 0 0 : 1");
        says("NONE; NOTHING; PLACE.",
            SOME, "item 6 0 1 ! NONE", "item -1 0 1 ! NONE", "item MOST -1 1 ! NONE", "item 5 0 1 ! NOTHING",
            "item 5 -1 1 ! NOTHING", "item 0 3 1 ! PLACE", "item 0 -1 1 ! PLACE", "item 0 MOST 1 ! PLACE",
            "item 0 LEAST 1 ! PLACE", "item 0 2 1 : 1", "peek 0 0 : 0 -7 1 NO");
    }

    private static void peekShift() {
        says("Item i of a TAPE. NO: no such TAPE, nothing there, no such place.",
            SOME, "peek 0 0 ! 0 -7 0 NO", "peek 6 0 ! NO", "peek -1 0 ! NO", "peek 5 0 ! NO", "peek 0 -1 ! NO",
            "peek 1 0 ! 12 0 0 0 NO", "peek 2 0 ! 0 9 NO", "peek 4 0 ! 1 0 NO", "peek MOST 0 ! NO", "peek 0 MOST ! NO",
            "peek 0 LEAST ! NO", "tape 0 0 0", "peek 0 0 ! NO");
        says("n items of a TAPE from i on come to another one (or the same) from j on, as they all were before: n.",
            "tape 0 2 5", "item 0 0 1", "item 0 1 2", "item 0 2 3", "item 0 3 4", "item 0 4 5", "tape 1 2 3",
            "shift 0 0 0 0 5 ! 5", "shift 0 2 0 2 0 ! 0", "shift 0 5 1 3 0 ! 0", "shift 0 0 0 1 4 : 4",
            "peek 0 0 : 1 1 2 3 4 NO", "shift 0 1 0 0 4 : 4", "peek 0 0 : 1 2 3 4 4 NO", "shift 0 2 1 0 3 : 3",
            "peek 1 0 : 3 4 4 NO", "peek 0 0 : 1 2 3 4 4 NO");
        says("NONE: tapes; NOTHING; CAST: of unlike sorts",
            SOME, "shift 6 0 0 0 0 ! NONE", "shift 0 0 6 0 0 ! NONE", "shift -1 0 0 0 0 ! NONE", "shift 0 0 -1 0 0 ! NONE",
            "shift 5 0 6 0 0 ! NONE", "shift 5 0 0 0 0 ! NOTHING", "shift 0 0 5 0 0 ! NOTHING", "shift 5 0 5 0 0 ! NOTHING",
            "shift 0 0 1 0 0 ! CAST", "shift 1 0 2 0 1 ! CAST", "shift 2 0 3 0 1 ! CAST", "shift 3 0 4 0 1 ! CAST",
            "shift 4 0 0 0 -1 ! CAST");
        says("PLACE: n, i or j is below 0, or beyond either's end.",
            SOME, "tape 5 0 2", "shift 0 0 5 0 -1 ! PLACE", "shift 0 -1 5 0 1 ! PLACE", "shift 0 0 5 -1 1 ! PLACE",
            "shift 0 2 5 0 2 ! PLACE", "shift 0 0 5 1 2 ! PLACE", "shift 0 0 5 0 3 ! PLACE", "shift 0 4 5 0 0 ! PLACE",
            "shift 0 0 5 3 0 ! PLACE", "shift 0 3 5 2 0 ! 0", "shift 0 -1 5 0 0 ! PLACE", "shift 0 0 5 -1 0 ! PLACE",
            "shift 0 MOST 5 0 MOST ! PLACE", "shift 0 1 5 0 MOST ! PLACE", "shift 0 0 5 MOST 1 ! PLACE",
            "shift 0 LEAST 5 LEAST LEAST ! PLACE", "shift 0 1 5 0 2 : 2", "peek 5 0 : -7 0 NO");
    }

    private static void manyCalls() {
        String[] lines = new String[512];
        for (int i = 0; i < 506; i++) lines[i] = i % 2 == 0 ? "job 9 9 9 : " + (i < 12 ? i / 2 : -4) : "feed 59";
        lines[506] = "count 4 : 100";
        lines[507] = "read : -10";
        lines[508] = "swap 4 : 5";
        lines[509] = "image : 6";
        lines[510] = "undo : 6";
        lines[511] = "told 5 : 72";
        says("An object is used for at most 512 calls after it has been made", lines);
    }

    static void all() {
        newObjectAndJob();
        renewAndOf();
        setFeedRead();
        planMoveSwap();
        stepAtTime();
        toldWould();
        ruledCost();
        leastBestSlack();
        seeFits();
        oddsMean();
        eventAfter();
        bookLooked();
        judgeOnTapes();
        imageUndoCount();
        tapeItem();
        peekShift();
        manyCalls();
    }

    public static void main(String[] args) {
        all();
        end("EdgeTests");
    }
}
