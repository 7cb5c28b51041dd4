/** The bounds inside THE COUNT: each sentence of "Terms" and "Details" that names one, with counts worked out by hand. */
public final class CountBoundsTest {
    private static final int NONE = -1, LACKS = -5;
    private static final long WHOLE = 1000000;

    private static final Check check = new Check();

    private static void due(String call, long want, long got) {
        check.due(call, want, got);
    }

    public static void main(String[] args) {
        quotaBySeats();
        quotaReached();
        quotaExactly();
        ended();
        filled();
        filledBehindElection();
        keepsAtFirst();
        keepsBehindElection();
        keepsBehindExclusion();
        keepAtMostWhole();
        keepOfOneMillionth();
        cutByEachPile();
        theLastMillionth();
        excess();
        surplusCountsFromZero();
        limit();
        rounds();
        seatsLeft();
        likeOnesByTheLot();
        fewestByStages();
        lastInTheLot();
        ranked();
        standing();
        mostVotes();
        oneMillionBallots();
        goneOnes();
        countedAnew();
        countedAnewWithFewer();
        check.end(500);
    }

    /** Candidates, SEATS, LIMIT, then ROWS and MANY. */
    private static KeepCount with(int candidates, int seats, int limit, int... rowsAndMany) {
        KeepCount x = Made.candidates(candidates);
        x.set(0, seats);
        x.set(1, limit);
        return Made.ballots(x, rowsAndMany);
    }

    private static void votes(KeepCount x, int stage, long... due) {
        for (int c = 0; c < due.length; c++) {
            due("votes(" + stage + ", " + c + ", 0)", due[c], x.votes(stage, c, 0));
        }
    }

    private static void keeps(KeepCount x, int stage, long... due) {
        for (int c = 0; c < due.length; c++) {
            due("votes(" + stage + ", " + c + ", 1)", due[c], x.votes(stage, c, 1));
        }
    }

    /** "VOTES of all CANDIDATES together by (SEATS and 1) (cut), and 1". */
    private static void quotaBySeats() {
        check.about("QUOTA by SEATS");
        for (int many : new int[] {0, 1, 2, 7, 1000000}) {
            KeepCount x = with(8, 1, 0, 1, many);
            for (int seats = 1; seats <= 7; seats++) {
                x.set(0, seats);
                due("QUOTA of " + many + ", " + seats, many * WHOLE / (seats + 1) + 1, x.amount(0, 0));
            }
        }
    }

    /** "HOPEFUL ones of QUOTA or more VOTES are ELECTED". */
    private static void quotaReached() {
        check.about("QUOTA or more");
        KeepCount half = with(3, 1, 0, 1, 500000, 2, 499999, 3, 1);
        due("half: QUOTA is 1 above", 500000 * WHOLE + 1, half.amount(0, 0));
        due("half: nobody", 0, half.stageOf(0, 2));
        due("half: the last one is excluded", 2, half.stageOf(0, 1));
        half.many(0, 500001);
        due("1 BALLOT more: QUOTA", 500000 * WHOLE + WHOLE / 2 + 1, half.amount(0, 0));
        due("1 BALLOT more", 1, half.stageOf(0, 2));
        KeepCount third = with(4, 2, 0, 1, 333333, 2, 333333, 3, 333333);
        due("thirds: nobody", 0, third.stageOf(0, 2));
        third.many(1, 333334);
        due("thirds: 1", 2, third.stageOf(0, 2));
        KeepCount votes = with(3, 1, 0);
        due("without VOTES QUOTA is 1", 1, votes.amount(0, 0));
        due("which nobody has", 0, votes.stageOf(0, 2));
    }

    /** QUOTA to the millionth, and 1 and 2 less: one in STAGE 3 of six, two others have less. */
    private static void quotaExactly() {
        check.about("QUOTA exactly");
        KeepCount x = with(7, 6, 0, 3425, 1, 42, 1, 3427, 2, 1425, 1, 1426, 2, 24, 1);
        due("QUOTA", 945596, x.amount(3, 0));
        votes(x, 3, 945597, 945597, 945597, 945595, 945596, 945594, 945594);
        due("who has it is ELECTED", 16, x.stageOf(3, 2));
        due("who has 2 less is not, till the last is FILLED", 5, x.of(5, 1));
        due("nobody is excluded", LACKS, x.stageOf(3, 1));
        due("SURPLUS of the three above", 3, x.amount(3, 2));
    }

    /** "it has ended if as many are ELECTED as there are SEATS, or nobody is HOPEFUL". */
    private static void ended() {
        check.about("THE COUNT has ended");
        due("without CANDIDATES", 0, new KeepCount().told(2));
        KeepCount gone = with(1, 1, 0, 1, 5);
        gone.gone(0, true);
        due("all GONE", 0, gone.told(2));
        due("all GONE: ELECTED", 0, gone.told(7));
        due("all GONE: PILES", 0, gone.told(8));
        KeepCount x = with(4, 2, 0, 1, 9, 2, 9, 3, 2, 4, 1);
        due("both at once: STAGES", 1, x.told(2));
        due("both at once: ELECTED", 2, x.told(6));
        due("the others are HOPEFUL", 1, x.of(2, 0));
        due("the others are HOPEFUL", 1, x.of(3, 0));
        due("stageOf(1, 0)", NONE, x.stageOf(1, 0));
        x.many(1, 6);
        due("one now: STAGES", 2, x.told(2));
        due("one now: ELECTED", 1, x.stageOf(0, 2));
        due("then the other", 2, x.stageOf(1, 2));
    }

    /** "If HOPEFUL and ELECTED ones are no more than SEATS, the STAGE is FILLED". */
    private static void filled() {
        check.about("FILLED");
        for (int seats = 1; seats <= 7; seats++) {
            for (int n = 1; n <= seats + 1; n++) {
                KeepCount x = with(n, seats, 1000000000);
                due(n + " for " + seats + ": FILLED", n <= seats ? 0 : 1, x.stageOf(0, 0));
                due(n + " for " + seats + ": ELECTED", Math.min(n, seats), x.told(6));
                due(n + " for " + seats + ": STAGES", n <= seats ? 1 : 2, x.told(2));
                due(n + " for " + seats + ": excluded", n <= seats ? LACKS : seats, x.stageOf(0, 1));
            }
        }
        KeepCount x = with(3, 2, 0, 1, 5, 2, 3, 3, 4);
        x.gone(0, true);
        due("GONE ones don't count", 0, x.stageOf(0, 0));
        due("the most first", 2, x.elected(0));
        due("QUOTA", 7 * WHOLE / 3 + 1, x.amount(0, 0));
        due("SURPLUS", 0, x.amount(0, 2));
    }

    /** HOPEFUL and ELECTED ones together; "KEEPS are as they were"; "SURPLUS (of a FILLED one 0)". */
    private static void filledBehindElection() {
        check.about("FILLED behind an election, an exclusion");
        KeepCount x = with(3, 2, 1000000000, 12, 9, 2, 1, 3, 2);
        due("0 is ELECTED", 1, x.stageOf(0, 2));
        due("1 is ELECTED by what goes on", 2, x.stageOf(1, 2));
        KeepCount y = with(4, 3, 1000000000, 1, 60, 2, 1, 3, 2);
        due("0 is ELECTED", 1, y.stageOf(0, 2));
        due("1 HOPEFUL too many: 3 is excluded", 3, y.stageOf(1, 1));
        due("then it is FILLED", 0, y.stageOf(2, 0));
        due("with two", 2 + 4, y.stageOf(2, 2));
        due("the most first", 2, y.elected(1));
        due("then", 1, y.elected(2));
        // QUOTA is 15750001 in STAGE 0, 18750060 / 4 + 1 in STAGE 1.
        keeps(y, 1, 262501, WHOLE, WHOLE, WHOLE);
        keeps(y, 2, 262501, WHOLE, WHOLE, 0);
        due("SURPLUS ahead", 15750060 - 4687516, y.amount(1, 2));
        due("SURPLUS", 0, y.amount(2, 2));
        due("STAGES", 3, y.told(2));
    }

    /** "HOPEFUL, of KEEP 1000000 (GONE ones 0)". */
    private static void keepsAtFirst() {
        check.about("KEEPS at first");
        KeepCount x = with(4, 1, 0, 1234, 3, 4321, 4);
        x.gone(3, true);
        x.gone(1, true);
        keeps(x, 0, WHOLE, 0, WHOLE, 0);
        votes(x, 0, 3 * WHOLE, 0, 4 * WHOLE, 0);
        due("all is kept", 0, x.amount(0, 1));
    }

    /** "first of all .. the KEEP of each ELECTED one becomes KEEP times QUOTA by VOTES". */
    private static void keepsBehindElection() {
        check.about("KEEPS behind an election");
        KeepCount x = with(4, 2, 0, 1, 60, 2, 5, 3, 4, 4, 3);
        x.set(2, 1);
        due("QUOTA of 72", 24 * WHOLE + 1, x.amount(0, 0));
        keeps(x, 0, WHOLE, WHOLE, WHOLE, WHOLE);
        // 1000000 * 24000001 / 60000000 = 400000.02
        keeps(x, 1, 400001, WHOLE, WHOLE, WHOLE);
        votes(x, 1, 24000060, 5 * WHOLE, 4 * WHOLE, 3 * WHOLE);
        due("EXCESS", 60 * WHOLE - 24000060, x.amount(1, 1));
        due("QUOTA of what is left", (24000060 + 12 * WHOLE) / 3 + 1, x.amount(1, 0));
        due("SURPLUS", 24000060 - 12000021, x.amount(1, 2));
        x.set(2, 2);
        // 400001 * 12000021 / 24000060 = 200000.55
        keeps(x, 1, 200001, WHOLE, WHOLE, WHOLE);
        due("ROUNDS", 2, x.stageOf(1, 0));
    }

    /** "but not in the first ROUND behind a STAGE in which somebody was EXCLUDED". */
    private static void keepsBehindExclusion() {
        check.about("KEEPS behind an exclusion");
        KeepCount x = with(5, 3, 0, 1, 60, 2, 5, 3, 4, 4, 3, 5, 2);
        x.set(2, 1);
        due("STAGE 1 excludes", 4, x.stageOf(1, 1));
        due("STAGE 2 excludes", 3, x.stageOf(2, 1));
        long keep = x.votes(1, 0, 1);
        keeps(x, 2, keep, WHOLE, WHOLE, WHOLE, 0);
        keeps(x, 3, keep, WHOLE, WHOLE, 0, 0);
        x.set(2, 2);
        long quota = x.amount(1, 0);
        due("the 2nd ROUND turns it", 1, x.votes(2, 0, 1) < x.votes(1, 0, 1) ? 1 : 0);
        due("the 1st one does not", 2, x.stageOf(2, 0));
        due("QUOTA falls", 1, x.amount(2, 0) < quota ? 1 : 0);
    }

    /** "rounded up; 1000000 at most": in STAGE 4 one has 945594 VOTES, QUOTA is 945597, and nothing is to be had more. */
    private static void keepAtMostWhole() {
        check.about("KEEP is 1000000 at most");
        KeepCount x = with(7, 6, 0, 3425, 1, 42, 1, 3427, 2, 1425, 1, 1426, 2, 24, 1);
        due("ELECTED in STAGE 3", 3, x.of(4, 1));
        due("QUOTA", 945597, x.amount(4, 0));
        due("VOTES", 945594, x.votes(4, 4, 0));
        due("KEEP", WHOLE, x.votes(4, 4, 1));
        due("ROUNDS", 20, x.stageOf(4, 0));
        due("KEEP in the FILLED STAGE", WHOLE, x.votes(5, 4, 1));
        due("one that may grow has grown", 178612, x.votes(4, 1, 1));
        due("from", 178611, x.votes(3, 1, 1));
    }

    /** "as it is, if VOTES are 0": 1 millionth is not 0. */
    private static void keepOfOneMillionth() {
        check.about("KEEP of VOTES 1, of VOTES 0");
        KeepCount x = with(8, 5, 0, 317, 2, 37, 1);
        due("VOTES 1", 1, x.votes(3, 6, 0));
        due("KEEP", 1, x.votes(3, 6, 1));
        due("KEEP twice as much, by QUOTA 2", 2, x.votes(4, 6, 1));
        due("QUOTA", 2, x.amount(3, 0));
        due("VOTES", 4, x.votes(4, 6, 0));
        KeepCount none = with(7, 6, 0, 752, 1, 72, 1);
        due("VOTES 0", 0, none.votes(2, 1, 0));
        due("KEEP 1", 1, none.votes(2, 1, 1));
        due("KEEP 1 still", 1, none.votes(3, 1, 1));
        due("VOTES 0 still", 0, none.votes(3, 1, 0));
    }

    /** "VOTES are cut by each PILE": of like ROWS together, of unlike ones one by one. */
    private static void cutByEachPile() {
        check.about("cut by each PILE");
        KeepCount like = with(4, 3, 17, 34, 1, 34, 1);
        due("one PILE", 1, like.told(8));
        due("VOTES of 2", 10, like.votes(2, 2, 0));
        due("VOTES of 3", 11, like.votes(2, 3, 0));
        due("KEEP of 3", 6, like.votes(2, 3, 1));
        due("EXCESS", 2 * WHOLE - 21, like.amount(2, 1));
        KeepCount once = with(4, 3, 17, 34, 2);
        due("the same by one BALLOT", 11, once.votes(2, 3, 0));
        // Of each PILE 999990 come to 3, of KEEP 6: 5.99994; of both together 11.99988.
        KeepCount two = with(5, 3, 17, 34, 1, 345, 1);
        due("two PILES", 2, two.told(8));
        due("2 and 3 of a third", 1, two.votes(2, 3, 0) != 11 ? 1 : 0);
        two.gone(4, true);
        due("of unlike ROWS, like by then", 1, two.told(8));
        due("VOTES of 3", 11, two.votes(2, 3, 0));
    }

    /** "the rest goes on", be it 1 millionth. */
    private static void theLastMillionth() {
        check.about("1 millionth goes on");
        KeepCount x = with(4, 2, 1000000000, 12, 1, 1, 333332, 2, 333332, 3, 333332, 4, 1);
        due("QUOTA", 333332666667L, x.amount(0, 0));
        due("0 alone has it", 1, x.stageOf(0, 2));
        // 1000000 * 333332666667 / 333333000000, with nothing to round
        due("KEEP", 999999, x.votes(1, 0, 1));
        votes(x, 1, 333333L * 999999, 333332000001L, 333332000000L, WHOLE);
        due("EXCESS", 333332, x.amount(1, 1));
    }

    /** "what is left behind the last is EXCESS". */
    private static void excess() {
        check.about("EXCESS");
        KeepCount x = with(4, 2, 1000000000, 1, 30, 12, 30, 3, 6, 4, 0);
        due("at first", 0, x.amount(0, 1));
        // QUOTA 22000001 of 66000000; KEEP 366667
        due("KEEP", 366667, x.votes(1, 0, 1));
        due("of the 30 that end there", 30 * (WHOLE - 366667), x.amount(1, 1));
        due("the other ones go on", 30 * (WHOLE - 366667), x.votes(1, 1, 0));
        due("VOTES of all", 66 * WHOLE - 30 * (WHOLE - 366667), x.amount(1, 3));
        x.many(0, 0);
        due("none ends there", 0, x.amount(1, 1));
    }

    /** "what ELECTED ones (not those of this very ROUND) have above QUOTA, together (one that has less counts 0)". */
    private static void surplusCountsFromZero() {
        check.about("SURPLUS");
        KeepCount x = with(4, 2, 0, 1, 60, 2, 5, 3, 4, 4, 3);
        due("not of this ROUND", 0, x.amount(0, 2));
        due("of one", x.votes(1, 0, 0) - x.amount(1, 0), x.amount(1, 2));
        KeepCount less = with(8, 7, 0, 123, 1, 124, 1, 125, 1, 126, 1, 127, 1, 128, 1, 3, 1, 4, 1, 5, 1, 6, 1, 7, 1, 8, 1, 1, 1);
        due("0 has more", 1, less.votes(2, 0, 0) - less.amount(2, 0));
        due("1 has less", -3, less.votes(2, 1, 0) - less.amount(2, 0));
        due("SURPLUS", 1, less.amount(2, 2));
        KeepCount two = with(5, 3, 1000000000, 1, 60, 2, 60, 3, 2, 4, 1, 5, 1);
        due("of two together", 2 * (two.votes(1, 0, 0) - two.amount(1, 0)), two.amount(1, 2));
        due("above 0", 1, two.amount(1, 2) > 0 ? 1 : 0);
    }

    /** "if SURPLUS is LIMIT at most .. somebody is EXCLUDED". */
    private static void limit() {
        check.about("LIMIT");
        KeepCount x = with(4, 2, 0, 1, 60, 2, 5, 3, 4, 4, 3);
        long[] surplus = new long[9];
        for (int r = 1; r <= 8; r++) {
            x.set(2, r);
            due("ROUNDS", r, x.stageOf(1, 0));
            surplus[r] = x.amount(1, 2);
        }
        x.set(2, 20);
        for (int r = 1; r <= 8; r++) {
            x.set(1, (int) surplus[r]);
            due("LIMIT as SURPLUS of ROUND " + r, r, x.stageOf(1, 0));
            x.set(1, (int) surplus[r] - 1);
            due("LIMIT less by 1", r + 1, x.stageOf(1, 0));
        }
        x.set(1, 1000000000);
        due("the greatest LIMIT", 1, x.stageOf(1, 0));
        KeepCount none = with(3, 1, 0);
        due("SURPLUS 0, LIMIT 0", 1, none.stageOf(0, 0));
        due("excluded", 2, none.stageOf(0, 1));
        KeepCount wide = with(4, 3, 1000000000, 1, 1000000, 1, 1000000, 1, 1000000, 1, 1000000);
        // SURPLUS is 1000004000000 - 250001000001 in the 1st ROUND, and becomes about a quarter by each.
        due("the greatest LIMIT is met", 6, wide.stageOf(1, 0));
        wide.set(2, 1);
        due("SURPLUS above any LIMIT", 1000004000000L - 250001000001L, wide.amount(1, 2));
    }

    /** "or it was ROUND number ROUNDS". */
    private static void rounds() {
        check.about("ROUNDS");
        KeepCount x = with(7, 6, 0, 752, 1, 72, 1);
        for (int r = 1; r <= 20; r++) {
            x.set(2, r);
            due("ROUNDS of STAGE 0, that elects", 1, x.stageOf(0, 0));
            due("ROUNDS of STAGE 2", r, x.stageOf(2, 0));
            due("excluded in it", 5, x.stageOf(2, 1));
            due("ELECTED in it", 0, x.stageOf(2, 2));
            due("SURPLUS is above LIMIT", 1, r == 20 || x.amount(2, 2) > 0 ? 1 : 0);
        }
    }

    /** "of more than there are SEATS left those of most VOTES; of like ones those ahead in THE LOT". */
    private static void seatsLeft() {
        check.about("more than there are SEATS left");
        KeepCount x = with(8, 7, 0, 123, 1, 124, 1, 125, 1, 126, 1, 127, 1, 128, 1, 3, 1, 4, 1, 5, 1, 6, 1, 7, 1, 8, 1, 1, 1);
        for (int c = 2; c < 8; c++) {
            due("VOTES of " + c, x.amount(2, 0), x.votes(2, c, 0));
        }
        due("five of six", 4 + 8 + 16 + 32 + 64, x.stageOf(2, 2));
        for (int c = 2; c < 8; c++) {
            x.swap(7, c);
            due("all but the last in THE LOT", 252 - (1 << c), x.stageOf(2, 2));
            due("that one is HOPEFUL", 1, x.of(c, 0));
            due("and ranked last", c, x.ranked(7));
            x.swap(7, c);
        }
        x.set(0, 3);
        due("QUOTA by 3 SEATS", 13 * WHOLE / 4 + 1, x.amount(0, 0));
    }

    /** "in one STAGE by its VOTES, the most first; of like ones by THE LOT". */
    private static void likeOnesByTheLot() {
        check.about("ELECTED ones in one STAGE");
        KeepCount x = with(5, 4, 0, 1, 10, 2, 11, 3, 10, 4, 11);
        int[][] swaps = {{0, 0}, {1, 3}, {0, 2}};
        int[][] due = {{1, 3, 0, 2}, {3, 1, 0, 2}, {3, 1, 2, 0}};
        for (int k = 0; k < 3; k++) {
            x.swap(swaps[k][0], swaps[k][1]);
            for (int i = 0; i < 4; i++) {
                due("elected(" + i + ") by LOT " + k, due[k][i], x.elected(i));
            }
        }
        KeepCount filled = with(3, 3, 0, 2, 5);
        filled.swap(0, 2);
        due("FILLED: the most", 1, filled.elected(0));
        due("FILLED: by THE LOT", 2, filled.elected(1));
        due("FILLED: by THE LOT", 0, filled.elected(2));
        KeepCount stages = with(3, 2, 0, 12, 60, 2, 1, 3, 1);
        due("by STAGES first", 0, stages.elected(0));
        due("whatever VOTES are then", 1, stages.votes(1, 1, 0) > stages.votes(1, 0, 0) ? 1 : 0);
        due("then", 1, stages.elected(1));
    }

    /** "of several that of fewest VOTES in the STAGE ahead, and so on back to STAGE 0". */
    private static void fewestByStages() {
        check.about("EXCLUDED by STAGES ahead");
        // 2 and 3 are alike from STAGE 1 on, and unlike by 1 in STAGE 0; as many STAGES are between as may be.
        KeepCount x = with(8, 1, 0, 1, 100, 2, 90, 3, 20, 4, 19, 5, 10, 6, 9, 7, 8, 84, 1);
        int[] out = {7, 6, 5, 4};
        for (int s = 0; s < 4; s++) {
            due("STAGE " + s, out[s], x.stageOf(s, 1));
        }
        for (int s = 1; s <= 4; s++) {
            due("like in STAGE " + s, x.votes(s, 2, 0), x.votes(s, 3, 0));
        }
        due("fewest in STAGE 0", 3, x.stageOf(4, 1));
        x.swap(2, 3);
        due("whatever THE LOT", 3, x.stageOf(4, 1));
        x.many(7, 0);
        x.many(3, 20);
        due("like in STAGE 0, too: the last in THE LOT", 2, x.stageOf(4, 1));
        x.swap(2, 3);
        due("the last in THE LOT", 3, x.stageOf(4, 1));
        // Fewer by the STAGE itself goes ahead of all STAGES ahead.
        KeepCount y = with(4, 1, 0, 1, 10, 2, 4, 3, 5, 42, 2);
        due("STAGE 0", 3, y.stageOf(0, 1));
        due("STAGE 1", 2, y.stageOf(1, 1));
    }

    /** "of those still the last in THE LOT"; "Its KEEP is 0 then". */
    private static void lastInTheLot() {
        check.about("EXCLUDED by THE LOT");
        KeepCount x = Made.candidates(8);
        int[] order = {5, 1, 4, 0, 7, 2, 6, 3};
        for (int i = 0; i < 8; i++) {
            x.swap(i, x.of(order[i], 2));
        }
        for (int s = 0; s < 7; s++) {
            int c = order[7 - s];
            due("excluded in " + s, c, x.stageOf(s, 1));
            due("KEEP in it", WHOLE, x.votes(s, c, 1));
            due("KEEP then", 0, x.votes(s + 1, c, 1));
        }
        due("ELECTED", 1 << 5, x.told(7));
    }

    /** "HOPEFUL ones by VOTES of the last STAGE, .. then by THE LOT; EXCLUDED ones, the last one first; GONE ones". */
    private static void ranked() {
        check.about("RANKED");
        KeepCount x = with(8, 1, 0, 3, 40, 4, 3, 5, 2, 6, 2, 7, 12, 8, 5);
        x.gone(0, true);
        x.gone(1, true);
        x.swap(4, 5);
        int[] due = {2, 6, 7, 3, 5, 4, 0, 1};
        for (int i = 0; i < 8; i++) {
            due("ranked(" + i + ")", due[i], x.ranked(i));
        }
        due("ranked(8)", NONE, x.ranked(8));
        due("one STAGE", 1, x.told(2));
        x.many(0, 10);
        // 4 of 34 BALLOTS are excluded first: 4 and 5 by THE LOT, 3, 7; then 6 has more than half.
        int[] then = {6, 2, 7, 3, 5, 4, 0, 1};
        for (int i = 0; i < 8; i++) {
            due("ranked(" + i + ") then", then[i], x.ranked(i));
        }
        due("EXCLUDED", 3, x.of(7, 0));
        due("EXCLUDED", 3, x.of(4, 0));
        due("first of them", 0, x.of(4, 1));
    }

    /** "those that aren't GONE, by its VOTES, the most first, then by THE LOT". */
    private static void standing() {
        check.about("STANDING");
        KeepCount x = with(5, 1, 0, 1, 3, 2, 4, 3, 3, 4, 9);
        x.gone(3, true);
        int[] due = {1, 0, 2, 4, NONE};
        for (int i = 0; i < 5; i++) {
            due("standing(0, " + i + ")", due[i], x.standing(0, i));
            due("standing(1, " + i + ")", due[i], x.standing(1, i));
        }
        due("standing(0, -1)", NONE, x.standing(0, -1));
        x.swap(0, 2);
        due("the other LOT", 2, x.standing(0, 1));
        due("the other LOT", 0, x.standing(0, 2));
        due("the excluded one stands, too", 4, x.standing(1, 3));
    }

    /** As many BALLOTS as there may be: nothing wraps around. */
    private static void mostVotes() {
        check.about("as many as may be");
        KeepCount x = with(3, 2, 0, 12, 1000000, 12, 1000000, 12, 1000000, 12, 1000000, 12, 611686);
        due("one PILE", 4611686, x.pile(0, 1));
        due("VOTES", 4611686000000L, x.votes(0, 0, 0));
        due("QUOTA", 1537228666667L, x.amount(0, 0));
        due("KEEP", 333334, x.votes(1, 0, 1));
        due("VOTES kept", 1537231741124L, x.votes(1, 0, 0));
        due("VOTES gone on", 3074454258876L, x.votes(1, 1, 0));
        due("SURPLUS", 3074457, x.amount(1, 2));
        due("EXCESS", 0, x.amount(1, 1));
        due("of(0, 3)", 4611686, x.of(0, 3));
        due("preferred(0, 1)", 4611686, x.preferred(0, 1));
        x.set(0, 1);
        due("QUOTA of 1 SEAT", 2305843000001L, x.amount(0, 0));
        KeepCount end = with(3, 2, 0, 1, 1000000, 1, 1000000, 1, 1000000, 1, 1000000, 1, 611686);
        end.set(2, 1);
        due("EXCESS", 3074454258876L, end.amount(1, 1));
        due("VOTES of all", 1537231741124L, end.amount(1, 3));
        due("SURPLUS above an int", 1537231741124L - 1537231741124L / 3 - 1, end.amount(1, 2));
    }

    /** "MANY (0 .. 1000000)" on each of 24 BALLOTS, as far as they are not OVER. */
    private static void oneMillionBallots() {
        check.about("unlike ROWS, as many as may be");
        KeepCount x = with(4, 1, 1000, 1234, 1000000, 2341, 1000000, 3412, 1000000, 4123, 1000000, 2, 611686);
        due("QUOTA", 2305843000001L, x.amount(0, 0));
        votes(x, 0, 1000000 * WHOLE, 1611686 * WHOLE, 1000000 * WHOLE, 1000000 * WHOLE);
        due("the last in THE LOT", 3, x.stageOf(0, 1));
        votes(x, 1, 2000000 * WHOLE, 1611686 * WHOLE, 1000000 * WHOLE, 0);
        due("then 2", 2, x.stageOf(1, 1));
        votes(x, 2, 3000000 * WHOLE, 1611686 * WHOLE, 0, 0);
        due("then 0 is ELECTED", 1, x.stageOf(2, 2));
    }

    /** GONE CANDIDATES have no VOTES, are never ELECTED nor EXCLUDED, and stand in no STAGE. */
    private static void goneOnes() {
        check.about("GONE");
        KeepCount x = with(8, 7, 0, 12345678, 9, 8, 100);
        for (int c = 0; c < 8; c++) {
            x.gone(c, true);
            due("ELECTED", 255 - (1 << c), x.told(7));
            due("FILLED", 0, x.stageOf(0, 0));
            due("VOTES", 0, x.votes(0, c, 0));
            due("KEEP", 0, x.votes(0, c, 1));
            due("STANDING", NONE, x.standing(0, 7));
            due("RANKED", c, x.ranked(7));
            due("its first BALLOTS", 0, x.of(c, 3));
            due("neither", LACKS, x.of(c, 1));
            x.gone(c, false);
        }
        due("ELECTED", 7, x.told(6));
    }

    /** THE COUNT is of all as it is told now: nothing of what was counted before is left. */
    private static void countedAnew() {
        check.about("counted anew");
        KeepCount x = with(3, 1, 0, 1, 5, 2, 4, 3, 3);
        due("2 is excluded", 2, x.stageOf(0, 1));
        due("STAGES", 2, x.told(2));
        x.many(0, 8);
        due("0 is ELECTED", 1, x.stageOf(0, 2));
        due("nobody is excluded", LACKS, x.stageOf(0, 1));
        due("STAGES", 1, x.told(2));
        due("ranked", 2, x.ranked(2));
        due("2 is HOPEFUL", 1, x.of(2, 0));
        due("neither", LACKS, x.of(2, 1));
        x.many(0, 5);
        due("excluded again", 2, x.stageOf(0, 1));
        due("nobody is ELECTED", 0, x.stageOf(0, 2));
        x.gone(2, true);
        due("without 2: STAGES", 1, x.told(2));
        due("without 2: ELECTED", 1, x.stageOf(0, 2));
        due("without 2: excluded", LACKS, x.stageOf(0, 1));
        due("without 2: EXCESS", 0, x.amount(0, 1));
        x.gone(0, true);
        x.gone(1, true);
        due("all GONE: STAGES", 0, x.told(2));
        due("all GONE: stageOf", NONE, x.stageOf(0, 0));
        due("all GONE: ELECTED", 0, x.told(7));
        due("all GONE: the first", LACKS, x.elected(0));
        x.gone(1, false);
        due("1 alone: QUOTA", 2 * WHOLE + 1, x.amount(0, 0));
        due("1 alone", 2, x.told(7));
    }

    private static void countedAnewWithFewer() {
        check.about("counted anew, with fewer");
        KeepCount x = with(2, 1, 0, 1, 5, 2, 4);
        x.image();
        for (int c = 2; c < 8; c++) {
            x.candidate();
        }
        Made.ballots(x, 8, 100, 876543, 100);
        x.set(0, 7);
        due("STAGES", 1, x.told(2) > 1 ? 1 : 0);
        due("ELECTED", 7, x.told(6));
        x.undo();
        due("ELECTED", 1, x.told(6));
        due("who", 1, x.told(7));
        due("STAGES", 1, x.told(2));
        due("PILES", 2, x.told(8));
        due("VOTES of all", 9 * WHOLE, x.amount(0, 3));
        due("votes(0, 7, 0)", Long.MIN_VALUE, x.votes(0, 7, 0));
        due("ranked(1)", 1, x.ranked(1));
        due("ranked(2)", NONE, x.ranked(2));
        due("standing(0, 2)", NONE, x.standing(0, 2));
        x.candidate();
        due("VOTES of a new one", 0, x.votes(0, 2, 0));
        due("KEEP of a new one", WHOLE, x.votes(0, 2, 1));
        due("a new one", 1, x.of(2, 0));
    }
}
