/**
 * The sentences of "Terms" that name a boundary, one by one. What is due was worked out on paper from the words that
 * stand ahead of each run.
 */
public final class TermsTests extends Sentences {

    private static void jobsAndTheirNumbers() {
        says("JOBS 0 .. 5, as they come",
            "of 0 0 ! NONE", "job 1 0 0 : 0", "job 2 0 0 : 1", "swap 0", "job 3 0 0 : 2", "job 4 0 0 : 3",
            "job 5 0 0 : 4", "of 5 0 ! NONE", "job 6 0 0 : 5", "of 5 0 ! 6", "of 6 0 ! NONE", "of -1 0 ! NONE",
            "of 0 0 : 1", "count 0 : 6", "job 7 0 0 ! FULL");
        says("each with hours A in the first hall, M on the way, B in the second hall (0 .. 30 each)",
            "job 0 30 30 : 0", "job 30 0 30 : 1", "job 30 30 0 : 2", "of 0 0 : 0 30 30", "of 1 0 : 30 0 30",
            "of 2 0 : 30 30 0", "job -1 0 0 ! BAD", "job 0 -1 0 ! BAD", "job 0 0 -1 ! BAD", "job 31 0 0 ! BAD",
            "job 0 31 0 ! BAD", "job 0 0 31 ! BAD", "job MOST 0 0 ! BAD", "job 0 LEAST 0 ! BAD", "count 0 : 3");
        says("(0 .. 30 each)",
            "job 7 7 7", "renew 0 0 31 ! BAD", "renew 0 0 -1 ! BAD", "renew 0 0 30 : 7", "renew 0 0 0 : 30",
            "renew 0 1 31 ! BAD", "renew 0 1 -1 ! BAD", "renew 0 1 30 : 7", "renew 0 1 0 : 30",
            "renew 0 2 31 ! BAD", "renew 0 2 -1 ! BAD", "renew 0 2 30 : 7", "renew 0 2 0 : 30", "of 0 0 : 0 0 0");
        says("CLEANING of the first, the second hall behind it (0 .. 9 each; 0 at first)",
            "job 1 1 1", "of 0 3 ! 0 0", "renew 0 3 10 ! BAD", "renew 0 3 -1 ! BAD", "renew 0 3 9 : 0",
            "of 0 3 : 9 0", "renew 0 4 10 ! BAD", "renew 0 4 -1 ! BAD", "renew 0 4 9 : 0", "renew 0 3 0 : 9",
            "of 0 3 : 0 9", "renew 0 4 0 : 9");
        says("CLEANING of the first, the second hall behind it (0 .. 9 each; 0 at first), DUE (0 .. 99; 99 at first)",
            "image", "job 1 1 1", "renew 0 3 5", "renew 0 4 6", "renew 0 5 7", "undo", "job 2 2 2 : 0", "of 0 3 : 0 0 99",
            "read j3,3,3 : 1", "of 1 3 : 0 0 99");
        says("DUE (0 .. 99; 99 at first)",
            "job 1 1 1", "of 0 5 ! 99", "renew 0 5 100 ! BAD", "renew 0 5 -1 ! BAD", "renew 0 5 0 : 99",
            "renew 0 5 99 : 0", "of 0 5 : 99");
    }

    private static void modeAimPlan() {
        // By WAY job 1 is brought over while 0 is on the way, by ROOM it waits for it, by BLOCK 0 lets it in at once.
        says("MODE: 0 WAY (at first), 1 ROOM, 2 BLOCK.",
            "told 1 : 0", "job 0 10 1", "job 0 1 1", "time 1 0 : 0 0 0 1 11 12", "set 0 1 : 0",
            "time 1 0 : 0 0 0 11 11 12", "set 0 2 : 1", "time 1 0 : 0 0 10 1 11 12", "set 0 3 ! BAD", "set 0 -1 ! BAD",
            "set 0 0 : 2", "time 1 0 : 0 0 0 1 11 12");
        says("AIM: 0 END (at first), 1 FLOW, 2 LATE.",
            "told 2 : 0", "job 0 0 2", "job 0 0 3", "told 3 : 5", "set 1 1 : 0", "told 3 : 7", "set 1 2 : 1",
            "told 3 : -94", "set 1 3 ! BAD", "set 1 -1 ! BAD", "set 1 0 : 2", "told 3 : 5");
        says("The PLAN: all JOBS in an order, at places 0, 1, ..",
            "at 0 ! NONE", "job 1 1 1", "at 0 ! 0 NONE", "at -1 ! NONE", "job 1 1 1", "job 1 1 1", "move 2 0",
            "at 0 ! 2 0 1 NONE", "of 0 6 : 1", "of 1 6 : 2", "of 2 6 : 0");
        says("a JOB that comes stands last",
            "job 9 9 9", "job 1 1 1", "swap 0", "job 0 0 0", "at 0 : 1 0 2 NONE", "plan 2", "at 0 : 2 1 0",
            "read j0,0,0 : 1", "at 0 : 2 1 0 3 NONE", "image", "job 0 0 0", "move 4 0", "undo", "job 0 0 0 : 4",
            "at 0 : 2 1 0 3 4 NONE");
    }

    private static void timesOfTheFirstHall() {
        says("TIMES of an order, JOB by JOB: a JOB BEGINS as soon as the first hall is free (0 at first); it is DONE A later.",
            "job 0 0 0", "job 5 0 0", "job 0 0 0", "time 0 0 : 0 0", "time 1 0 : 0 5", "time 2 0 : 5 5");
        says("by ROOM M behind the later of DONE and what the JOB ahead of it ARRIVES",
            "set 0 1", "job 2 3 0", "job 3 1 0", "time 0 3 : 5", "time 1 1 : 5", "time 1 3 : 6", "renew 1 0 2",
            "time 1 1 : 4", "time 1 3 : 6", "renew 1 0 4", "time 1 1 : 6", "time 1 3 : 7", "renew 1 0 2", "swap 0",
            "time 1 3 : 3", "time 0 1 : 4", "time 0 3 : 7", "renew 1 1 9", "time 0 3 : 14");
        says("(0: there is none)",
            "set 0 1", "job 0 0 0", "job 0 4 0", "time 0 3 : 0", "time 1 3 : 4", "swap 0", "time 1 3 : 4",
            "time 0 3 : 4", "renew 1 1 0", "time 1 3 : 0");
        says("It ARRIVES: by WAY, BLOCK M behind DONE",
            "job 2 3 0", "job 2 1 0", "time 1 3 : 5", "set 0 2", "time 1 3 : 5", "renew 1 1 0", "time 1 3 : 4");
        says("It LEAVES the first hall: by WAY, ROOM as it is DONE; by BLOCK M ahead of BEGINS AGAIN.",
            "job 1 1 4", "job 1 2 1", "time 1 0 : 1 2 2 4 6 7", "set 0 1", "time 1 0 : 1 2 2 4 6 7", "set 0 2",
            "time 1 0 : 1 2 4 4 6 7", "renew 1 0 2", "time 1 0 : 1 3 4 5 6 7", "renew 1 0 3",
            "time 1 0 : 1 4 4 6 6 7", "renew 1 1 0", "time 1 0 : 1 4 6 4 6 7");
    }

    private static void timesOfTheSecondHall() {
        says("It BEGINS AGAIN as soon as it has ARRIVED and the second hall is free (0 at first), and ENDS B later.",
            "job 1 1 4", "job 3 1 0", "time 0 3 : 2 2 6", "time 1 3 : 5 6 6", "renew 1 0 4", "time 1 3 : 6 6 6",
            "renew 1 0 5", "time 1 3 : 7 7 7", "renew 0 0 0", "renew 0 1 0", "time 0 3 : 0 0 4");
        says("The first hall is free again its CLEANING behind LEAVES, the second one its CLEANING behind ENDS.",
            "job 2 0 3", "job 1 0 1", "time 1 0 : 2 3 3 3 5 6", "renew 0 3 4", "renew 0 4 5",
            "time 1 0 : 6 7 7 7 10 11", "renew 1 3 9", "renew 1 4 9", "time 1 0 : 6 7 7 7 10 11", "told 4 : 11");
        says("The first hall is free again its CLEANING behind LEAVES",
            "job 2 0 3", "job 1 0 1", "job 1 0 1", "renew 0 3 4", "renew 0 4 5", "renew 1 3 1",
            "time 2 0 : 8 9 9 9 11 12", "set 0 2", "time 2 0 : 11 12 12 12 12 13");
    }

    private static void costs() {
        says("COST of an order by AIM: END: the latest ENDS",
            "job 1 1 5", "job 0 0 0", "told 3 : 7", "swap 0", "told 3 : 7", "renew 0 2 0", "told 3 : 2", "swap 0",
            "told 3 : 2");
        says("FLOW: all ENDS together",
            "set 1 1", "job 1 1 1", "told 3 : 3", "job 4 0 0", "told 3 : 8", "swap 0", "told 3 : 11");
        says("LATE: the greatest LATENESS: ENDS less DUE (it may be below 0)",
            "set 1 2", "job 3 2 1", "told 3 : -93", "renew 0 5 6", "told 3 : 0", "time 0 6 : 0", "renew 0 5 5",
            "told 3 : 1", "renew 0 5 0", "told 3 : 6", "job 0 0 0", "time 1 6 : -93", "told 3 : 6", "renew 0 5 99",
            "renew 1 5 98", "told 3 : -92");
    }

    private static void orders() {
        says("ORDERS by a RULE: 0 COME: as they come.",
            "job 9 0 0", "job 1 0 0", "job 5 0 0", "move 2 0", "ruled 0 0 ! 0 1 2 NONE", "plan 0 : 3",
            "at 0 : 0 1 2");
        says("1 LISTS: the FIRST LIST, JOBS with A not above B, by A and M together, the least first; then all others by M "
                + "and B together, the greatest first.",
            "job 5 0 4", "job 5 9 5", "job 6 0 5", "job 0 13 0", "job 30 30 0", "job 30 30 30", "told 12 : 3",
            "ruled 1 0 ! 3 1 5 4 2 0 NONE");
        says("JOBS with A not above B",
            "job 4 0 4", "told 12 : 1", "renew 0 0 5", "told 12 : 0", "renew 0 0 3", "told 12 : 1", "renew 0 2 0",
            "renew 0 0 0", "told 12 : 1", "renew 0 0 1", "told 12 : 0");
        says("2 SHORT: by A, M and B together, the least first.",
            "job 5 0 4", "job 5 9 5", "job 6 0 5", "job 0 13 0", "job 30 30 0", "job 30 30 30",
            "ruled 2 0 ! 0 2 3 1 4 5 NONE");
        says("3 URGENT: by DUE, the least first.",
            "job 0 0 0", "job 0 0 0", "job 0 0 0", "job 30 30 30", "renew 3 5 0", "renew 2 5 98",
            "ruled 3 0 ! 3 2 0 1 NONE");
        says("Of several the least number first, by all.",
            "job 9 1 3", "job 2 3 5", "job 9 2 2", "job 3 2 3", "job 1 4 1", "job 8 0 4", "move 5 0",
            "ruled 1 0 : 1 3 4 0 2 5", "ruled 3 0 : 0 1 2 3 4 5");
        says("Of several the least number first, by all.",
            "job 1 2 3", "job 3 2 1", "job 0 6 0", "job 6 0 0", "job 0 0 6", "job 2 2 2", "move 5 0", "move 4 1",
            "ruled 2 0 : 0 1 2 3 4 5", "ruled 3 0 : 0 1 2 3 4 5", "plan 2 : 6", "at 0 : 0 1 2 3 4 5",
            "renew 0 5 0", "renew 1 5 0", "swap 0", "plan 3 : 2", "at 0 : 0 1 2 3 4 5");
    }

    /** FLOW of JOBS with B alone: one that goes behind another gains its own B less the other's. */
    private static void steps() {
        says("A STEP by a MANNER makes the PLAN's COST less",
            "set 1 1", "job 0 0 2", "job 0 0 2", "step 0 100 : 0", "step 1 100 : 0", "step 2 100 : 0", "at 0 : 0 1",
            "renew 1 2 1", "step 0 100 : 1", "at 0 : 1 0", "step 0 100 : 0");
        says("0 FIRST: of neighbours by whose exchange it is less the first ones (at places k, k + 1 of least k)",
            "set 1 1", "job 0 0 2", "job 0 0 2", "job 0 0 1", "job 0 0 0", "told 8 : 2", "step 0 1 : 1",
            "at 0 : 0 2 1 3");
        says("0 FIRST: of neighbours by whose exchange it is less the first ones",
            "set 1 1", "job 0 0 3", "job 0 0 2", "job 0 0 9", "job 0 0 1", "step 0 1 : 1", "at 0 : 1 0 2 3");
        says("1 MOST: of neighbours those by whose exchange it is least, of several the first",
            "set 1 1", "job 0 0 3", "job 0 0 2", "job 0 0 9", "job 0 0 1", "step 1 1 : 1", "at 0 : 0 1 3 2");
        says("of several the first;",
            "set 1 1", "job 0 0 2", "job 0 0 1", "job 0 0 2", "job 0 0 1", "step 1 1 : 1", "at 0 : 1 0 2 3",
            "step 1 1 : 1", "at 0 : 1 0 3 2");
        says("of several that of least k",
            "set 1 1", "job 0 0 2", "job 0 0 1", "job 0 0 2", "job 0 0 1", "step 2 1 : 1", "at 0 : 1 2 3 0");
        says("then of least l",
            "set 1 1", "job 0 0 2", "job 0 0 1", "job 0 0 2", "step 2 1 : 1", "at 0 : 1 0 2");
        says("2 FAR: of all moves (the JOB at place k stands at place l, all others keep their order) that by which it is "
                + "least",
            "set 1 1", "job 0 0 2", "job 0 0 3", "job 0 0 1", "step 2 1 : 1", "at 0 : 2 0 1", "step 2 1 ! 0");
        // 1 0 2: no exchange of neighbours makes FLOW less, a move of two places does.
        says("There is no STEP, if none makes it less.",
            "job 3 2 1", "job 1 4 5", "job 2 0 2", "set 1 1", "swap 0", "step 0 100 ! 0", "step 1 100 ! 0",
            "step 2 1 : 1", "at 0 : 0 2 1", "told 3 : 29", "step 0 1 : 1", "told 3 : 27", "step 2 100 ! 0");
        says("There is no STEP, if none makes it less.",
            "job 3 2 1", "step 0 100 ! 0", "step 1 100 ! 0", "step 2 100 ! 0");
    }

    private static void textsThatAreSetUps() {
        says("A set-up is read from THE TEXT (bytes, 100 at most)",
            FILLED, "count 4 : 100", "feed 59 ! FULL", "read : 3", "count 4 : 0", "of 0 3 : 1 2 7", "of 1 3 : 1 2",
            "feed 59 : 1");
        says("CLAUSES, 1 to 12, with ; between",
            "read : -10", "read m1 : 1", "read m1;m2 : 2", "told 1 : 2",
            "read m0;m1;m2;m0;m1;m2;m0;m1;m2;m0;m1 : 11", "told 1 : 1",
            "read m0;m1;m2;m0;m1;m2;m0;m1;m2;m0;m1;m2 : 12", "told 1 : 2");
        says("CLAUSES, 1 to 12",
            "read m0;m1;m2;m0;m1;m2;m0;m1;m2;m0;m1;m2;m1 : -45", "told 1 : 0",
            "read m0;m1;m2;m0;m1;m2;m0;m1;m2;m0;m1;m2; : -45", "told 1 : 0",
            "read m0;m1;m2;m0;m1;m2;m0;m1;m2;m0;m1;m2x : -45", "told 1 : 0",
            "read m0;m1;m2;m0;m1;m2;m0;m1;m2;m0;m1;m : -44", "told 1 : 0");
        says("j A , M , B (a JOB comes)",
            "read j1,2,3 : 1", "of 0 0 : 1 2 3 0 0 99 0", "read j0,00,000 : -18", "read j00,0,09;j30,30,30 : 2",
            "of 1 0 : 0 0 9 0 0 99 1", "of 2 0 : 30 30 30 0 0 99 2", "count 0 : 3");
        says("c i FIRST SECOND (of JOB i CLEANINGS become that)",
            "job 1 1 1", "job 1 1 1", "read c109 : 1", "of 1 3 : 0 9", "of 0 3 : 0 0", "read c190;c012 : 2",
            "of 1 3 : 9 0", "of 0 3 : 1 2");
        says("d i DUE",
            "job 1 1 1", "job 1 1 1", "read d17 : 1", "of 1 5 : 7", "of 0 5 : 99", "read d100;d099 : 2", "of 1 5 : 0",
            "of 0 5 : 99", "read d009 : 1", "of 0 5 : 9",
            "read d00;d000;d05 : 3", "of 0 5 : 5");
        says("m MODE; a AIM.",
            "read m2;a1 : 2", "told 1 : 2 1", "read a2;m1 : 2", "told 1 : 1 2", "read m0;a0 : 2", "told 1 : 0 0");
    }

    private static void textsWithAFault() {
        says("i, FIRST, SECOND, MODE, AIM: a digit each",
            SOME, "read : 5", "read c : -11", "read c0 : -12", "read c01 : -13", "read c0123 : -14", "read cx12 : -11",
            "read c0,12 : -12", "read c01,2 : -13", "read m : -11", "read m11 : -12", "read m- : -11", "read a : -11",
            "read a00 : -12", "read ax : -11", "read d : -11", "read d, : -11", "read d0 : -12", "read m/ : -11",
            "read m: : -11");
        says("A, M, B, DUE: 1 or 2 digits",
            "read j : -11", "read j, : -11", "read j1 : -12", "read j12 : -13", "read j123 : -13", "read j1, : -13",
            "read j1,, : -13", "read j1,2 : -14", "read j1,12,123 : -18", "read j1,123,1 : -15", "read j1,2, : -15",
            "read j1,2,; : -15", "read j1,2,3, : -16", "read j1;2,3 : -12", "read d0; : -12", "read d0123 : -14",
            "count 0 : 0");
        says("Nothing else stands between (no blanks).",
            "read  m1 : -10", "read m 1 : -11", "read m1 ;a1 : -12", "read m1; a1 : -13", "read m1  : -12",
            "read j 1,2,3 : -11", "read j1 ,2,3 : -12", "read j1, 2,3 : -13", "read j1,2 ,3 : -14",
            "read j1,2, 3 : -15", "read j1,2,3  : -16", "read c 012 : -11", "read c0 12 : -12", "read c01 2 : -13",
            "read c012  : -14", "read d 07 : -11", "read d0 7 : -12", "read d07  : -13", "read a 1 : -11",
            "read m1\n : -12", "read m1\0 : -12", "read m1;;a1 : -13", "read m1,a1 : -12", "told 1 : 0 0");
        says("The FAULT: the place of the first byte with which none begins so",
            "read x : -10", "read ; : -10", "read 0 : -10", "read J1,2,3 : -10", "read M1 : -10", "read m1;x : -13",
            "read m1;b1 : -13", "read m1m2 : -12", "read m1;M2 : -13", "read m1;j1,2,3x;a1 : -19", "read \0 : -10",
            "told 1 : 0", "count 0 : 0");
        says("(the end of THE TEXT, if it ends too early)",
            "read : -10", "read m : -11", "read m1; : -13", "read m1;a : -14", "read m1;j1,1,1; : -20",
            "read m1;c0 : -15", "read m1;d0 : -15", "told 1 : 0", "count 0 : 0");
        String nine = "j11,11,11;j11,11,11;j11,11,11;j11,11,11;j11,11,11;j11,11,11;j11,11,11;j11,11,11;j11,11,11;";
        says("(the end of THE TEXT, if it ends too early)",
            "text " + nine + "j11,11,11; : 100", "feed 109 ! FULL", "read : -110", "count 0 : 0",
            "text " + nine + "m1;m1;m1;m : 100", "read : -108", "count 0 : 0");
        says("(the end of THE TEXT, if it ends too early)",
            "text " + nine + "m1;c0123;a : 100", "read : -107", "text " + nine + "m1;c012;d0 : 100", "read : -110",
            "count 0 : 0", "told 1 : 0");
    }

    private static void clausesDone() {
        says("Without FAULT they are done, one behind the other",
            "read c012;j1,1,1;c034;j2,2,2;c156;d009;d010 : 6", "of 0 3 : 3 4 10", "of 1 3 : 5 6 99",
            "read m1;m2;m0;a2;a1 : 5", "told 1 : 0 1");
        says("those that would be refused aren't",
            "read j31,0,0 : 0", "read j0,31,0 : 0", "read j0,0,31 : 0", "read j99,99,99 : 0", "read c000 : 0",
            "read d000 : 0", "read m3 : 0", "read a3 : 0", "read m9;a9 : 0", "told 0 : 0 0 0");
        says("those that would be refused aren't",
            "read m2;j31,0,0;a1;c099;j1,1,1;d100;d04 : 4", "count 0 : 1", "told 1 : 2 1", "of 0 3 : 0 0 4",
            "read c699;c999;d999;c512 : 0");
        says("those that would be refused aren't",
            SOME, "read : 5", "read j1,1,1;j2,2,2;j3,3,3 : 1", "count 0 : 6", "of 5 0 : 1 1 1", "read j1,1,1 : 0");
    }

    static void all() {
        jobsAndTheirNumbers();
        modeAimPlan();
        timesOfTheFirstHall();
        timesOfTheSecondHall();
        costs();
        orders();
        steps();
        textsThatAreSetUps();
        textsWithAFault();
        clausesDone();
    }

    public static void main(String[] args) {
        all();
        end("TermsTests");
    }
}
