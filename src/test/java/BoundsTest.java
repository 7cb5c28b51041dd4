/**
 * The bounds that the document names, promise by promise: the last that is taken and what it does, the first that is
 * refused, on both sides. What a refusal leaves is RefusedTest's, bounds inside THE COUNT are CountBoundsTest's,
 * those of texts TextBoundsTest's.
 */
public final class BoundsTest {
    private static final int NONE = -1, BAD = -2, STATE = -3, FULL = -4, LACKS = -5, OVER = -15;
    private static final int NOTHING = -11, CAST = -12, PLACE = -13, SIZE = -14;
    private static final long NO = Long.MIN_VALUE;
    private static final int MIN = Integer.MIN_VALUE, MAX = Integer.MAX_VALUE;
    /** Each of a BALLOT's MANY brings as much. */
    private static final long WHOLE = 1000000;

    private static final Check check = new Check();

    private static void due(String call, long want, long got) {
        check.due(call, want, got);
    }

    public static void main(String[] args) {
        candidates();
        candidateBehindUndo();
        digits();
        manyOfABallot();
        ballots();
        over();
        overAtMany();
        drop();
        dropLeavesNothing();
        settings();
        lot();
        asMuchAsThereMayBe();
        piles();
        elected();
        ofACandidate();
        rows();
        preferred();
        best();
        share();
        without();
        raised();
        needsThirty();
        needsMany();
        needsTwentyFifth();
        seen();
        fits();
        events();
        afterLosesBallots();
        feed();
        judgedToTheEnd();
        judgedNumbers();
        image();
        sizes();
        lowestBits();
        booleans();
        peekOfNothing();
        shiftToTheEnds();
        shiftOfSorts();
        check.end(700);
    }

    /** "CANDIDATES 0 .. 7, as they come"; "FULL: 8." */
    private static void candidates() {
        check.about("Promise 2, candidate");
        KeepCount x = new KeepCount();
        for (int n = 0; n < 8; n++) {
            due("told(0)", n, x.told(0));
            due("gone of the next", NONE, x.gone(n, false));
            due("candidate()", n, x.candidate());
            due("gone of it", 0, x.gone(n, false));
            due("last in THE LOT", n, x.of(n, 2));
        }
        due("the 9th", FULL, x.candidate());
        due("the 10th", FULL, x.candidate());
        due("told(0)", 8, x.told(0));
        due("gone(7)", 0, x.gone(7, true));
        due("a GONE one leaves no place", FULL, x.candidate());
        due("of(8, 0)", NONE, x.of(8, 0));
    }

    private static void candidateBehindUndo() {
        check.about("Promise 2, candidate behind undo");
        KeepCount x = Made.candidates(7);
        x.image();
        due("candidate()", 7, x.candidate());
        x.gone(7, true);
        x.swap(0, 7);
        due("candidate()", FULL, x.candidate());
        x.undo();
        due("of(7, 0)", NONE, x.of(7, 0));
        due("candidate()", 7, x.candidate());
        due("isn't GONE", 0, x.gone(7, false));
        due("last in THE LOT", 7, x.of(7, 2));
        due("candidate()", FULL, x.candidate());
    }

    /** "BAD: row (1 to 8 digits, each a CANDIDATE's, none twice)". */
    private static void digits() {
        check.about("Promise 3, the digits of a row");
        int up = 0;
        int down = 0;
        int tens = 1;
        for (int n = 1; n <= 8; n++) {
            KeepCount x = Made.candidates(n);
            up = up * 10 + n;
            down += n * tens;
            tens *= 10;
            for (int digit = 0; digit <= 9; digit++) {
                boolean is = digit >= 1 && digit <= n;
                due("ballot(" + digit + ", 1) of " + n, is ? digit - 1 : BAD, x.ballot(digit, 1));
            }
            due("all upwards", n, x.ballot(up, 1));
            due("all downwards", n + 1, x.ballot(down, 1));
            due("one more digit", BAD, x.ballot(up * 10 + 1, 1));
            due("one more digit ahead", BAD, x.ballot(down + tens, 1));
            due("0 behind", BAD, x.ballot(up * 10, 1));
            if (n >= 2) {
                due("the last is the first", BAD, x.ballot(up / 10 * 10 + 1, 1));
                due("0 last", BAD, x.ballot(up / 10 * 10, 1));
            }
        }
        KeepCount x = Made.candidates(8);
        due("the least of 8 digits", 0, x.ballot(12345678, 0));
        due("the greatest of 8 digits", 1, x.ballot(87654321, 0));
        due("twice, side by side", BAD, x.ballot(11, 0));
        due("twice, far apart", BAD, x.ballot(82345678, 0));
        due("below 0", BAD, x.ballot(-12, 0));
        due("9 digits", BAD, x.ballot(123456781, 0));
        due("9 digits, the first one 0's", BAD, x.ballot(100000000, 0));
        due("10 digits", BAD, x.ballot(MAX, 0));
        due("the greatest of 8 signs", BAD, x.ballot(99999999, 0));
    }

    /** "MANY (0 .. 1000000)". */
    private static void manyOfABallot() {
        check.about("Promises 3, 4, MANY");
        KeepCount x = Made.candidates(1);
        due("ballot(1, -1)", BAD, x.ballot(1, -1));
        due("ballot(1, 0)", 0, x.ballot(1, 0));
        due("ballot(1, 1000000)", 1, x.ballot(1, 1000000));
        due("ballot(1, 1000001)", BAD, x.ballot(1, 1000001));
        due("many(1, 1000001)", BAD, x.many(1, 1000001));
        due("many(1, -1)", BAD, x.many(1, -1));
        due("many(1, MIN)", BAD, x.many(1, MIN));
        due("many(1, MAX)", BAD, x.many(1, MAX));
        due("many(1, 0)", 1000000, x.many(1, 0));
        due("many(1, 1000000)", 0, x.many(1, 1000000));
        due("many(0, 1)", 0, x.many(0, 1));
        due("many(2, 1)", NONE, x.many(2, 1));
        due("many(-1, 1)", NONE, x.many(-1, 1));
        due("MANY of 0", 1, x.ballotOf(0, 0));
        due("MANY of 1", 1000000, x.ballotOf(1, 0));
    }

    /** "BALLOTS 0 .. 23, as they come"; "FULL: 24". */
    private static void ballots() {
        check.about("Promise 3, FULL");
        KeepCount x = Made.candidates(2);
        for (int b = 0; b < 24; b++) {
            due("ballotOf of the next", NONE, x.ballotOf(b, 0));
            due("ballot(1, " + b + ")", b, x.ballot(1, b));
            due("its MANY", b, x.ballotOf(b, 0));
        }
        due("the 25th", FULL, x.ballot(1, 0));
        due("the 25th with a bad row", BAD, x.ballot(3, 0));
        due("the 25th with a bad MANY", BAD, x.ballot(1, -1));
        due("ballotOf(24, 0)", NONE, x.ballotOf(24, 0));
        due("many(24, 0)", NONE, x.many(24, 0));
        due("told(1)", 24, x.told(1));
        due("drop()", 23, x.drop());
        due("a 24th again", 23, x.ballot(2, 5));
        due("the 25th", FULL, x.ballot(2, 5));
    }

    /** "MANY of all BALLOTS together times 2000000000000 isn't a long's". */
    private static void over() {
        check.about("OVER at ballot");
        long most = Long.MAX_VALUE / 2000000000000L;
        due("MANY that may be together", 4611686, most);
        KeepCount x = Made.candidates(2);
        Made.ballots(x, 1, 1000000, 2, 1000000, 12, 1000000, 21, 1000000);
        due("1 too many", OVER, x.ballot(1, 611687));
        due("1000000", OVER, x.ballot(1, 1000000));
        due("as many as may be", 4, x.ballot(1, 611686));
        due("none more", 5, x.ballot(1, 0));
        due("1 more", OVER, x.ballot(2, 1));
        due("BAD ahead of OVER", BAD, x.ballot(3, 1));
        due("BAD ahead of OVER", BAD, x.ballot(1, 1000001));
        due("told(1)", 6, x.told(1));
        due("VOTES of all", 4611686 * WHOLE, x.amount(0, 3));
        due("drop()", 5, x.drop());
        due("drop()", 4, x.drop());
        due("there is room again", 4, x.ballot(1, 611686));
        x.gone(0, true);
        x.gone(1, true);
        due("BALLOTS in no PILE count, too", OVER, x.ballot(1, 1));
        KeepCount full = Made.FULL.make();
        due("FULL ahead of OVER", FULL, full.ballot(1, 1));
    }

    private static void overAtMany() {
        check.about("OVER at many");
        KeepCount x = Made.candidates(1);
        Made.ballots(x, 1, 1000000, 1, 1000000, 1, 1000000, 1, 1000000, 1, 611686);
        due("1 more", OVER, x.many(4, 611687));
        due("as many", 611686, x.many(4, 611686));
        due("1 less", 611686, x.many(4, 611685));
        due("1 more, and no more", 611685, x.many(4, 611686));
        due("the first one less", 1000000, x.many(0, 999999));
        due("so the last one more", 611686, x.many(4, 611687));
        due("but not by 2", OVER, x.many(4, 611688));
        due("nor the first one", OVER, x.many(0, 1000000));
        due("NONE ahead of OVER", NONE, x.many(5, 1000000));
        due("BAD ahead of OVER", BAD, x.many(4, 1000001));
        due("MANY of the first", 999999, x.ballotOf(0, 0));
        due("MANY of the last", 611687, x.ballotOf(4, 0));
        due("VOTES of all", 4611686 * WHOLE, x.amount(0, 3));
    }

    /** "STATE: there are none." */
    private static void drop() {
        check.about("Promise 5, drop");
        KeepCount x = Made.candidates(1);
        due("drop() of none", STATE, x.drop());
        x.ballot(1, 3);
        x.ballot(1, 4);
        due("drop()", 1, x.drop());
        due("the first is there", 3, x.ballotOf(0, 0));
        due("drop()", 0, x.drop());
        due("drop() of none", STATE, x.drop());
        due("many(0, 1)", NONE, x.many(0, 1));
        for (int b = 0; b < 24; b++) {
            x.ballot(1, b);
        }
        for (int b = 23; b >= 0; b--) {
            due("MANY of the last", b, x.ballotOf(b, 0));
            due("drop()", b, x.drop());
        }
        due("drop() of none", STATE, x.drop());
    }

    /** "The last BALLOT is none any more": nothing that is asked counts it. */
    private static void dropLeavesNothing() {
        check.about("Promise 5, what drop leaves");
        KeepCount x = Made.candidates(2);
        Made.ballots(x, 1, 1000000, 1, 1000000, 1, 611686, 2, 1000000, 2, 1000000);
        due("there is room for none", LACKS, x.needs(1, 10000));
        due("drop()", 4, x.drop());
        x.many(3, 1000000 - 1);
        x.many(0, 0);
        x.many(1, 388314);
        x.swap(0, 1);
        due("room for 1000001, behind by 1", 1, x.needs(1, 10000));
        due("of(1, 3)", 999999, x.of(1, 3));
        due("preferred(1, 0)", 999999, x.preferred(1, 0));
        due("preferred(0, 1)", 1000000, x.preferred(0, 1));
        due("best()", 0, x.best());
        due("VOTES", 999999 * WHOLE, x.votes(0, 1, 0));
        due("PILES", 2, x.told(8));
        due("ballotOf(4, 0)", NONE, x.ballotOf(4, 0));
        due("rowOf(4, 0)", NONE, x.rowOf(4, 0));
        due("raised(4, 0)", NONE, x.raised(4, 0));
        x.event(3, 1);
        due("after()", 1, x.after());
        due("as many as may be", 4, x.ballot(2, 1000000));
        due("drop()", 4, x.drop());
        due("drop()", 3, x.drop());
        due("of(1, 3) of none", 0, x.of(1, 3));
        due("preferred(1, 0) of none", 0, x.preferred(1, 0));
        due("PILES", 1, x.told(8));
        KeepCount room = Made.candidates(2);
        Made.ballots(room, 1, 1000000, 1, 1000000, 2, 1000000, 2, 999999, 1, 611686);
        due("drop()", 4, room.drop());
        due("the dropped one takes no room", 1, room.needs(1, 10000));
    }

    /** "SEATS (1 .. 7; 1 at first), LIMIT (0 .. 1000000000; 1000 at first), ROUNDS (1 .. 20; 20 at first)". */
    private static void settings() {
        check.about("Promise 7, set");
        int[][] bounds = {{1, 7, 1}, {0, 1000000000, 1000}, {1, 20, 20}};
        for (int what = 0; what <= 2; what++) {
            KeepCount x = new KeepCount();
            int least = bounds[what][0];
            int most = bounds[what][1];
            due("at first " + what, bounds[what][2], x.told(3 + what));
            due("below the least of " + what, BAD, x.set(what, least - 1));
            due("above the most of " + what, BAD, x.set(what, most + 1));
            due("the least of " + what, bounds[what][2], x.set(what, least));
            due("told", least, x.told(3 + what));
            due("the most of " + what, least, x.set(what, most));
            due("told", most, x.told(3 + what));
            due("below the least of " + what, BAD, x.set(what, least - 1));
            due("above the most of " + what, BAD, x.set(what, most + 1));
            due("MIN of " + what, BAD, x.set(what, MIN));
            due("MAX of " + what, BAD, x.set(what, MAX));
            due("told", most, x.told(3 + what));
            due("the same once more", most, x.set(what, most));
            for (int other = 0; other <= 2; other++) {
                due("another one stays", other == what ? most : bounds[other][2], x.told(3 + other));
            }
        }
        KeepCount x = new KeepCount();
        due("set(3, 1)", NONE, x.set(3, 1));
        due("set(-1, 1)", NONE, x.set(-1, 1));
        due("NONE ahead of BAD", NONE, x.set(3, -1));
    }

    /** "Places i and j in THE LOT change"; "NONE: either, or the same." */
    private static void lot() {
        check.about("Promise 8, swap");
        KeepCount none = new KeepCount();
        due("swap(0, 1) of none", NONE, none.swap(0, 1));
        KeepCount one = Made.candidates(1);
        due("swap(0, 0) of one", NONE, one.swap(0, 0));
        due("swap(0, 1) of one", NONE, one.swap(0, 1));
        due("swap(1, 0) of one", NONE, one.swap(1, 0));
        KeepCount x = Made.candidates(8);
        due("swap(0, 7)", 7, x.swap(0, 7));
        due("swap(7, 0)", 7, x.swap(7, 0));
        due("swap(0, 8)", NONE, x.swap(0, 8));
        due("swap(8, 0)", NONE, x.swap(8, 0));
        due("swap(-1, 0)", NONE, x.swap(-1, 0));
        due("swap(0, -1)", NONE, x.swap(0, -1));
        due("swap(8, 8)", NONE, x.swap(8, 8));
        for (int c = 0; c < 8; c++) {
            due("as they came", c, x.of(c, 2));
        }
        due("swap(6, 7)", 7, x.swap(6, 7));
        due("of(6, 2)", 7, x.of(6, 2));
        due("of(7, 2)", 6, x.of(7, 2));
    }

    /** 8 CANDIDATES and STAGES, as many as there can be. */
    private static void asMuchAsThereMayBe() {
        check.about("8 STAGES");
        KeepCount x = Made.candidates(8);
        due("STAGES", 8, x.told(2));
        for (int s = 0; s < 7; s++) {
            due("ROUNDS of " + s, 1, x.stageOf(s, 0));
            due("excluded in " + s, 7 - s, x.stageOf(s, 1));
            due("ELECTED in " + s, 0, x.stageOf(s, 2));
            due("of(.., 1)", s, x.of(7 - s, 1));
            due("ranked", s + 1, x.ranked(s + 1));
        }
        due("the last is FILLED", 0, x.stageOf(7, 0));
        due("excluded", LACKS, x.stageOf(7, 1));
        due("ELECTED", 1, x.stageOf(7, 2));
        due("of(0, 1)", 7, x.of(0, 1));
        due("ranked(0)", 0, x.ranked(0));
        due("ranked(8)", NONE, x.ranked(8));
        due("stageOf(8, 0)", NONE, x.stageOf(8, 0));
        due("stageOf(-1, 0)", NONE, x.stageOf(-1, 0));
        due("amount(7, 0)", 1, x.amount(7, 0));
        due("amount(8, 0)", NO, x.amount(8, 0));
        due("votes(7, 7, 1)", 0, x.votes(7, 7, 1));
        due("votes(7, 0, 1)", WHOLE, x.votes(7, 0, 1));
        due("votes(8, 0, 1)", NO, x.votes(8, 0, 1));
        due("votes(7, 8, 1)", NO, x.votes(7, 8, 1));
        due("standing(7, 7)", 7, x.standing(7, 7));
        due("standing(7, 8)", NONE, x.standing(7, 8));
        due("standing(8, 0)", NONE, x.standing(8, 0));
        due("share(7, 7, 1)", 1, x.share(7, 7, 1));
        due("share(8, 7, 1)", NO, x.share(8, 7, 1));
        x.set(0, 7);
        due("7 of 8: STAGES", 2, x.told(2));
        due("7 of 8: ELECTED", 7, x.told(6));
        due("7 of 8: who", 127, x.told(7));
        for (int c = 0; c < 8; c++) {
            x.gone(c, true);
        }
        due("all GONE: STAGES", 0, x.told(2));
        due("all GONE: ELECTED", 0, x.told(6));
        for (int c = 0; c < 8; c++) {
            due("all GONE: by numbers", c, x.ranked(c));
            due("all GONE: neither", LACKS, x.of(c, 1));
            due("all GONE: elected", LACKS, x.elected(c));
        }
        x.gone(7, false);
        due("one is not: the first", 7, x.ranked(0));
        due("one is not: then 0", 0, x.ranked(1));
        due("one is not: STAGES", 1, x.told(2));
    }

    /** "those without CANDIDATES then, and those of MANY 0, are in none"; as many PILES as BALLOTS. */
    private static void piles() {
        check.about("Promise 19, PILES");
        KeepCount none = Made.candidates(1);
        due("pile(0, 0) of none", NONE, none.pile(0, 0));
        none.ballot(1, 0);
        due("MANY 0", NONE, none.pile(0, 0));
        none.many(0, 1);
        due("MANY 1", 1, none.pile(0, 1));
        none.gone(0, true);
        due("without CANDIDATES", NONE, none.pile(0, 0));
        due("told(8)", 0, none.told(8));
        KeepCount x = twentyFourPiles();
        due("told(8)", 24, x.told(8));
        int last = 0;
        for (int k = 0; k < 24; k++) {
            due("MANY", 1, x.pile(k, 1));
            due("a PILE more", 1, x.pile(k, 0) != last ? 1 : 0);
            last = x.pile(k, 0);
        }
        due("the first", 1, x.pile(0, 0));
        due("the last", 63, x.pile(23, 0));
        due("pile(24, 0)", NONE, x.pile(24, 0));
        due("pile(-1, 0)", NONE, x.pile(-1, 0));
        due("pile(0, 2)", NONE, x.pile(0, 2));
        due("pile(0, -1)", NONE, x.pile(0, -1));
        KeepCount one = Made.candidates(2);
        for (int b = 0; b < 24; b++) {
            one.ballot(21, 3);
        }
        due("one PILE", 1, one.told(8));
        due("its MANY", 72, one.pile(0, 1));
        one.gone(1, true);
        due("its ROW", 1, one.pile(0, 0));
    }

    /** 1, 12, 123, 13, 14, 2, 21, 213, ..: 24 ROWS of 1 to 6, unlike each other, the last ones first. */
    private static KeepCount twentyFourPiles() {
        KeepCount x = Made.candidates(6);
        int[] rows = {63, 62, 61, 6, 53, 52, 51, 5, 43, 42, 41, 4, 34, 32, 31, 3, 24, 23, 21, 2, 14, 13, 12, 1};
        for (int row : rows) {
            x.ballot(row, 1);
        }
        return x;
    }

    /** "The i-th ELECTED one; -5." */
    private static void elected() {
        check.about("Promise 16, elected");
        KeepCount x = Made.candidates(8);
        x.set(0, 7);
        Made.ballots(x, 8, 9, 7, 8, 6, 7, 5, 6, 4, 5, 3, 4, 2, 3);
        for (int i = 0; i < 7; i++) {
            due("elected(" + i + ")", 7 - i, x.elected(i));
        }
        due("elected(7)", LACKS, x.elected(7));
        due("elected(8)", LACKS, x.elected(8));
        due("elected(-1)", LACKS, x.elected(-1));
        due("who", 254, x.told(7));
        due("ranked(6)", 1, x.ranked(6));
        due("ranked(7), the excluded one", 0, x.ranked(7));
        due("elected(0) of none", LACKS, new KeepCount().elected(0));
    }

    /** "-5: neither"; "MANY of all BALLOTS that have it first". */
    private static void ofACandidate() {
        check.about("Promise 9, of");
        KeepCount x = Made.candidates(3);
        Made.ballots(x, 12, 1000000, 2, 1000000, 12, 1000000, 1, 1000000, 312, 611686);
        due("first by far", 3000000, x.of(0, 3));
        due("GONE ones ahead", 611686, x.of(2, 3));
        x.gone(2, true);
        due("GONE ones left out", 3611686, x.of(0, 3));
        due("a GONE one is first of none", 0, x.of(2, 3));
        due("a GONE one: neither", LACKS, x.of(2, 1));
        due("a GONE one", 0, x.of(2, 0));
        due("ELECTED in STAGE 0", 0, x.of(0, 1));
        due("HOPEFUL: neither", LACKS, x.of(1, 1));
        due("HOPEFUL", 1, x.of(1, 0));
        x.gone(0, true);
        due("all, for the other ones are GONE", 3611686, x.of(1, 3));
        due("of(2, 2)", 2, x.of(2, 2));
        due("of(0, 4)", NONE, x.of(0, 4));
        due("of(0, -1)", NONE, x.of(0, -1));
        due("of(3, 0)", NONE, x.of(3, 0));
        due("of(-1, 3)", NONE, x.of(-1, 3));
    }

    /** "2 the first that isn't GONE (-5: none)"; "The i-th CANDIDATE of a BALLOT's ROW. NONE." */
    private static void rows() {
        check.about("Promises 10, 11, ballotOf, rowOf");
        KeepCount x = Made.candidates(8);
        Made.ballots(x, 87654321, 1, 8, 2);
        for (int c = 7; c >= 0; c--) {
            due("the first", c, x.ballotOf(0, 2));
            due("how many", 8, x.ballotOf(0, 1));
            x.gone(c, true);
            due("of the short one", LACKS, x.ballotOf(1, 2));
        }
        due("the first", LACKS, x.ballotOf(0, 2));
        due("how many", 1, x.ballotOf(1, 1));
        due("rowOf(0, 7)", 0, x.rowOf(0, 7));
        due("rowOf(0, 8)", NONE, x.rowOf(0, 8));
        due("rowOf(1, 0)", 7, x.rowOf(1, 0));
        due("rowOf(1, 1)", NONE, x.rowOf(1, 1));
        due("rowOf(1, -1)", NONE, x.rowOf(1, -1));
        due("rowOf(1, MIN)", NONE, x.rowOf(1, MIN));
        due("rowOf(1, MAX)", NONE, x.rowOf(1, MAX));
        due("rowOf(2, 0)", NONE, x.rowOf(2, 0));
        due("rowOf(-1, 0)", NONE, x.rowOf(-1, 0));
        due("ballotOf(0, 3)", NONE, x.ballotOf(0, 3));
        due("ballotOf(2, 0)", NONE, x.ballotOf(2, 0));
    }

    /** "on which one CANDIDATE stands and the other one doesn't, or only behind it". */
    private static void preferred() {
        check.about("Promise 20, preferred");
        KeepCount x = Made.candidates(8);
        due("no BALLOTS", 0, x.preferred(0, 7));
        Made.ballots(x, 12345678, 1000000, 8, 1000000, 81, 1000000, 2, 1000000, 1, 611686);
        due("first and last, and alone", 1611686, x.preferred(0, 7));
        due("alone, and ahead", 2000000, x.preferred(7, 0));
        due("right behind", 1000000, x.preferred(6, 7));
        due("neither stands on the others", 2000000, x.preferred(7, 6));
        x.gone(0, true);
        x.gone(7, true);
        due("as told, GONE or not", 1611686, x.preferred(0, 7));
        due("the same", NONE, x.preferred(7, 7));
        due("preferred(8, 0)", NONE, x.preferred(8, 0));
        due("preferred(0, 8)", NONE, x.preferred(0, 8));
    }

    /** "by more than the other way about"; "a CANDIDATE alone that is not GONE is BEST". */
    private static void best() {
        check.about("Promise 21, best");
        KeepCount x = Made.candidates(2);
        due("0 to 0", LACKS, x.best());
        x.ballot(2, 1);
        due("1 to 0", 1, x.best());
        x.ballot(1, 1);
        due("1 to 1", LACKS, x.best());
        x.many(1, 2);
        due("1 to 2", 0, x.best());
        x.gone(0, true);
        due("alone", 1, x.best());
        x.gone(1, true);
        due("all GONE", LACKS, x.best());
        KeepCount like = Made.candidates(3);
        Made.ballots(like, 12, 5, 31, 5);
        due("more than one, as many as the other", LACKS, like.best());
        like.gone(2, true);
        due("more than the only one left", 0, like.best());
    }

    /** "a fraction in lowest terms"; "of no VOTES 0 by 1". */
    private static void share() {
        check.about("Promise 22, share");
        KeepCount x = Made.candidates(3);
        for (int c = 0; c < 3; c++) {
            due("no VOTES at all, above", 0, x.share(0, c, 0));
            due("no VOTES at all, below", 1, x.share(0, c, 1));
        }
        Made.ballots(x, 1, 1000000, 1, 1000000, 1, 1000000, 1, 1000000, 2, 611685, 3, 1);
        due("4000000 of 4611686 above", 2000000, x.share(0, 0, 0));
        due("4000000 of 4611686 below", 2305843, x.share(0, 0, 1));
        due("of 1 above", 1, x.share(0, 2, 0));
        due("of 1 below", 4611686, x.share(0, 2, 1));
        due("nothing in common above", 611685, x.share(0, 1, 0));
        due("nothing in common below", 4611686, x.share(0, 1, 1));
        x.gone(0, true);
        x.gone(1, true);
        due("all above", 1, x.share(0, 2, 0));
        due("all below", 1, x.share(0, 2, 1));
        due("a GONE one above", 0, x.share(0, 0, 0));
        due("a GONE one below", 1, x.share(0, 0, 1));
        // VOTES 3, 0, 3, .., 1 of 7 millionths, then 3, 0, 3, .., 4 of 10.
        KeepCount few = Made.candidates(8);
        few.set(0, 5);
        few.set(1, 0);
        Made.ballots(few, 317, 2, 37, 1);
        long[][] shares = {{3, 7}, {0, 1}, {3, 7}, {0, 1}, {0, 1}, {0, 1}, {1, 7}, {0, 1}};
        for (int c = 0; c < 8; c++) {
            due("of 7 above", shares[c][0], few.share(3, c, 0));
            due("of 7 below", shares[c][1], few.share(3, c, 1));
        }
        due("3 of 10 above", 3, few.share(4, 0, 0));
        due("3 of 10 below", 10, few.share(4, 0, 1));
        due("4 of 10 above", 2, few.share(4, 6, 0));
        due("4 of 10 below", 5, few.share(4, 6, 1));
        due("share(1, 2, 0)", NO, x.share(1, 2, 0));
        due("share(0, 3, 0)", NO, x.share(0, 3, 0));
        due("share(0, 2, 2)", NO, x.share(0, 2, 2));
        due("share(0, 2, -1)", NO, x.share(0, 2, -1));
    }

    private static void without() {
        check.about("Promise 23, without");
        KeepCount x = Made.candidates(1);
        due("without the only one", 0, x.without(0));
        due("it is there still", 1, x.told(7));
        due("without(1)", NONE, x.without(1));
        due("without(-1)", NONE, x.without(-1));
        x.gone(0, true);
        due("without a GONE one", 0, x.without(0));
        KeepCount eight = Made.candidates(8);
        eight.set(0, 7);
        due("7 of 8", 127, eight.told(7));
        due("without(0)", 254, eight.without(0));
        due("without(7)", 127, eight.without(7));
        due("without(8)", NONE, eight.without(8));
    }

    private static void raised() {
        check.about("Promise 24, raised");
        KeepCount x = Made.candidates(2);
        due("no BALLOT", NONE, x.raised(0, 0));
        for (int b = 0; b < 24; b++) {
            x.ballot(1, b == 23 ? 1000 : 1);
        }
        due("raised(0, 1)", 1, x.raised(0, 1));
        due("raised(23, 1)", 2, x.raised(23, 1));
        due("raised(24, 1)", NONE, x.raised(24, 1));
        due("raised(-1, 1)", NONE, x.raised(-1, 1));
        due("raised(23, 2)", NONE, x.raised(23, 2));
        due("raised(23, -1)", NONE, x.raised(23, -1));
        due("it is as it was", 1, x.told(7));
        x.gone(1, true);
        due("a GONE one stands nowhere", 1, x.raised(23, 1));
        KeepCount edge = Made.EDGE.make();
        due("at the edge of OVER", 2, edge.raised(0, 1) & 2);
        due("TROUBLE is as it was", 1, edge.cause(0, 0));
    }

    /** "the least n (0 .. 30)". */
    private static void needsThirty() {
        check.about("Promise 25, n from 0 to 30");
        for (int many : new int[] {1, 7, 10000}) {
            KeepCount x = Made.candidates(2);
            x.ballot(1, 0);
            x.swap(0, 1);
            due("none are needed", 0, x.needs(1, many));
            due("nor of less", 1, x.needs(0, many));
            for (int n = 1; n <= 30; n++) {
                x.many(0, n * many);
                due("like ones, THE LOT", n, x.needs(1, many));
            }
            x.many(0, 30 * many + 1);
            due("31 are too many", LACKS, x.needs(1, many));
            due("by what is ELECTED", 0, x.needs(0, many));
            x.many(0, 30 * many);
            x.swap(0, 1);
            due("31 are too many, behind in THE LOT", LACKS, x.needs(1, many));
            x.many(0, 30 * many - 1);
            due("30 are not", 30, x.needs(1, many));
        }
    }

    /** "BAD: many (1 .. 10000)"; "-5 (also if that were OVER, or it is GONE)". */
    private static void needsMany() {
        check.about("Promise 25, many, OVER, GONE");
        KeepCount x = Made.candidates(2);
        x.ballot(1, 5);
        for (int many : new int[] {0, 10001, -1, MIN, MAX}) {
            due("needs(1, " + many + ")", BAD, x.needs(1, many));
            due("needs(2, " + many + ")", NONE, x.needs(2, many));
            due("needs(-1, " + many + ")", NONE, x.needs(-1, many));
        }
        due("needs(1, 1)", 6, x.needs(1, 1));
        due("needs(1, 10000)", 1, x.needs(1, 10000));
        due("needs(2, 1)", NONE, x.needs(2, 1));
        x.gone(1, true);
        due("GONE", LACKS, x.needs(1, 10000));
        KeepCount edge = Made.candidates(2);
        Made.ballots(edge, 1, 1000000, 1, 1000000, 1, 1000000, 2, 1000000, 2, 611685);
        due("ELECTED", 0, edge.needs(0, 10000));
        due("there is room for 1", LACKS, edge.needs(1, 1));
        due("and for none of 2", LACKS, edge.needs(1, 2));
        edge.many(2, 611686);
        edge.many(3, 1000000 - 1);
        edge.many(4, 1000000);
        due("the other is behind by 611687", LACKS, edge.needs(1, 10000));
        edge.many(0, 388314);
        due("room for 1000000, behind by 1", 1, edge.needs(1, 2));
        KeepCount last = Made.candidates(2);
        Made.ballots(last, 1, 1000000, 1, 1000000, 1, 305843, 2, 1000000, 2, 1000000, 2, 295842);
        due("room for 10001, behind by 10001", LACKS, last.needs(1, 10000));
        last.many(5, 295843);
        due("room for 10000, behind by 10000", LACKS, last.needs(1, 10000));
        last.swap(0, 1);
        due("and ahead in THE LOT", 1, last.needs(1, 10000));
        due("by 5000", 2, last.needs(1, 5000));
        due("by 5001, OVER", LACKS, last.needs(1, 5001));
        due("TROUBLE is as it was", LACKS, last.cause(0, 0));
    }

    /** "came a BALLOT more (in thought a 25th, too)". */
    private static void needsTwentyFifth() {
        check.about("Promise 25, a 25th BALLOT");
        KeepCount x = Made.candidates(8);
        int[] rows = {12, 13, 14, 15, 16, 17, 18, 21, 23, 24, 25, 26, 27, 28, 31, 32, 34, 35, 36, 37, 38, 41, 42, 43};
        for (int row : rows) {
            x.ballot(row, 2);
        }
        due("24 PILES", 24, x.told(8));
        due("a 25th PILE", 1, x.needs(7, 100));
        // By 16 it has as many as 0, 1 and 2, when 3 is excluded; these had 14 in the STAGE ahead.
        due("of 15 and 16", 16, x.needs(7, 1));
        due("a 25th PILE, first", 0, x.needs(0, 100));
        due("24 BALLOTS", 24, x.told(1));
        due("24 PILES", 24, x.told(8));
        due("no 25th", FULL, x.ballot(8, 1));
    }

    /** "5 rows at most"; "candidate -1: none then, 0, whatever the other is". */
    private static void seen() {
        check.about("Promise 26, see");
        KeepCount x = Made.candidates(3);
        due("of none there is none", 0, x.see(-1, false));
        for (int k = 1; k <= 5; k++) {
            due("see", k, x.see(2, k % 2 == 0));
            due("count(0)", k, x.count(0));
        }
        due("the 6th", FULL, x.see(2, true));
        due("the 6th of nobody", NONE, x.see(3, true));
        due("count(0)", 5, x.count(0));
        due("see(-1, true)", 0, x.see(-1, true));
        due("count(0)", 0, x.count(0));
        due("see(-2, true)", NONE, x.see(-2, true));
        due("see(3, true)", NONE, x.see(3, true));
        due("see(0, true)", 1, x.see(0, true));
        due("see(-1, false)", 0, x.see(-1, false));
        due("nobody comes", NONE, new KeepCount().see(0, true));
    }

    /** "by how many SEATS 1 .. 7 all SEEN would be so; the least"; "-5". */
    private static void fits() {
        check.about("Promise 27, fits");
        KeepCount x = Made.candidates(8);
        due("nothing SEEN", 7, x.fits(0));
        due("nothing SEEN, the least", 1, x.fits(1));
        for (int c = 0; c < 8; c++) {
            x.see(-1, true);
            x.see(c, true);
            due("ELECTED by " + (c + 1) + " SEATS", 7 - c, x.fits(0));
            due("the least", c < 7 ? c + 1 : LACKS, x.fits(1));
            x.see(-1, true);
            x.see(c, false);
            due("not ELECTED", c, x.fits(0));
            due("the least", c > 0 ? 1 : LACKS, x.fits(1));
        }
        x.see(-1, true);
        x.see(6, true);
        x.see(6, true);
        x.see(0, true);
        x.see(7, false);
        due("4 of them", 1, x.fits(0));
        due("the most SEATS", 7, x.fits(1));
        x.see(5, false);
        due("the 5th counts", 0, x.fits(0));
        due("the 5th counts", LACKS, x.fits(1));
        due("fits(2)", NONE, x.fits(2));
        due("fits(-1)", NONE, x.fits(-1));
        due("SEATS are as they were", 1, x.told(3));
    }

    /** "8 rows at most"; "NONE: what, CANDIDATE n; BAD: SEATS n; FULL: 8." */
    private static void events() {
        check.about("Promise 28, event");
        KeepCount x = Made.candidates(2);
        for (int what : new int[] {0, 1, 3}) {
            due("event(" + what + ", 2)", NONE, x.event(what, 2));
            due("event(" + what + ", -1)", NONE, x.event(what, -1));
        }
        due("event(2, 0)", BAD, x.event(2, 0));
        due("event(2, 8)", BAD, x.event(2, 8));
        due("event(4, 1)", NONE, x.event(4, 1));
        due("event(-2, 1)", NONE, x.event(-2, 1));
        due("event(2, 1)", 1, x.event(2, 1));
        due("event(2, 7)", 2, x.event(2, 7));
        due("after 7 SEATS", 3, x.after());
        for (int k = 3; k <= 7; k++) {
            due("event(0, 0)", k, x.event(0, 0));
        }
        due("event(0, 1)", 8, x.event(0, 1));
        due("the 8th happens", 0, x.after());
        due("the 9th", FULL, x.event(1, 1));
        due("the 9th, of nobody", NONE, x.event(1, 2));
        due("the 9th, of 8 SEATS", BAD, x.event(2, 8));
        due("the 9th, of nothing", NONE, x.event(4, 1));
        due("count(1)", 8, x.count(1));
        due("event(-1, MAX)", 0, x.event(-1, MAX));
        due("count(1)", 0, x.count(1));
        due("none happens", 1, x.after());
        due("event(-1, MIN)", 0, x.event(-1, MIN));
        due("event(3, 1)", 1, x.event(3, 1));
    }

    /** "3 all BALLOTS with CANDIDATE n first (GONE ones left out) have MANY 0". */
    private static void afterLosesBallots() {
        check.about("Promise 29, BALLOTS of MANY 0");
        KeepCount x = Made.candidates(3);
        Made.ballots(x, 2, 900, 2, 1, 2, 3);
        x.swap(0, 1);
        due("as it is", 2, x.after());
        x.event(3, 1);
        due("no VOTES, so THE LOT", 2, x.after());
        x.swap(0, 1);
        due("no VOTES, not even one", 1, x.after());
        x.event(3, 1);
        due("once more", 1, x.after());
        x.event(-1, 0);
        x.event(3, 0);
        due("of nobody's", 2, x.after());
        KeepCount y = Made.candidates(3);
        for (int b = 0; b < 24; b++) {
            y.ballot(b == 23 ? 13 : 2, b == 23 ? 900 : 1);
        }
        due("as it is", 1, y.after());
        y.event(3, 0);
        due("the 24th BALLOT, too", 2, y.after());
        y.event(0, 1);
        due("nobody has VOTES", 1, y.after());
        y.event(-1, 0);
        y.event(0, 0);
        y.event(3, 2);
        due("first by then", 2, y.after());
        y.event(1, 0);
        due("and it stays lost", 2, y.after());
        due("MANY are as they were", 900, y.ballotOf(23, 0));
        KeepCount z = Made.candidates(3);
        Made.ballots(z, 12, 900, 2, 1, 3, 1);
        z.event(3, 0);
        z.event(0, 0);
        due("0 to those that are like by then", 2, z.after());
        z.swap(1, 2);
        due("0, so THE LOT", 4, z.after());
    }

    /** "A sign (0 .. 127)"; "bytes, 100 at most". */
    private static void feed() {
        check.about("Promise 30, feed");
        KeepCount x = new KeepCount();
        due("feed(-1)", BAD, x.feed(-1));
        due("feed(128)", BAD, x.feed(128));
        due("feed(MIN)", BAD, x.feed(MIN));
        due("feed(MAX)", BAD, x.feed(MAX));
        for (int k = 1; k <= 100; k++) {
            due("feed", k, x.feed(k % 2 == 0 ? 0 : 127));
        }
        due("the 101st", FULL, x.feed(0));
        due("the 101st", FULL, x.feed(127));
        due("BAD ahead of FULL", BAD, x.feed(128));
        due("BAD ahead of FULL", BAD, x.feed(-1));
        due("count(2)", 100, x.count(2));
    }

    /** "100 and how many were looked at, if the row ends ahead of that". */
    private static void judgedToTheEnd() {
        check.about("Promise 33, where the row ends");
        KeepCount x = Made.candidates(8);
        for (int c = 1; c <= 8; c++) {
            x.ballot(c, c);
        }
        x.tape(5, 3, 60);
        for (int c = 0; c < 8; c++) {
            x.item(5, c, (c + 1) * WHOLE);
            x.item(5, 52 + c, (c + 1) * WHOLE);
        }
        due("from the start", LACKS, x.judge(0, 5, 0));
        due("the row ends right behind", LACKS, x.judge(0, 5, 52));
        due("one place ahead", 0, x.judge(0, 5, 51));
        due("one place behind", 0, x.judge(0, 5, 53));
        due("the last place", 0, x.judge(0, 5, 59));
        due("the end", 100, x.judge(0, 5, 60));
        due("behind the end", 100, x.judge(0, 5, 61));
        due("MAX", 100, x.judge(0, 5, MAX));
        due("MAX - 3", 100, x.judge(0, 5, MAX - 3));
        due("-1", 100, x.judge(0, 5, -1));
        due("MIN", 100, x.judge(0, 5, MIN));
        for (int n = 0; n <= 8; n++) {
            x.tape(0, 3, n + 2);
            for (int c = 0; c < n; c++) {
                x.item(0, c + 2, (c + 1) * WHOLE);
            }
            due("a row of " + n + ", from 2 on", n < 8 ? 100 + n : LACKS, x.judge(0, 0, 2));
            due("otherwise ahead of its end", n == 0 ? 100 : 0, x.judge(0, 0, n == 0 ? 2 : 1));
        }
        x.tape(1, 3, 1);
        due("a row of one", 0, x.judge(0, 1, 0));
        x.tape(1, 3, 0);
        due("a row of none", 100, x.judge(0, 1, 0));
        due("nothing", 100, x.judge(0, 2, 0));
        due("nothing, MIN", 100, x.judge(0, 2, MIN));
    }

    /** "the first CANDIDATE of which they are otherwise"; "CAST: it is no row of longs". */
    private static void judgedNumbers() {
        check.about("Promise 33, what is otherwise");
        KeepCount x = Made.candidates(3);
        Made.ballots(x, 1, 1000000, 1, 1000000, 1, 1000000, 1, 1000000, 1, 611686);
        long[] right = {4611686 * WHOLE, 0, 0};
        long[] wrong = {1, -1, 1L << 32, -1L << 32, Long.MIN_VALUE};
        x.tape(0, 3, 3);
        for (int odd = 0; odd < 3; odd++) {
            for (long by : wrong) {
                for (int c = 0; c < 3; c++) {
                    x.item(0, c, right[c] + (c == odd ? by : 0));
                }
                due("otherwise by " + by, odd, x.judge(0, 0, 0));
            }
        }
        x.item(0, 2, 0);
        due("as told", LACKS, x.judge(0, 0, 0));
        x.item(0, 1, 5);
        x.item(0, 2, 5);
        due("the first of two", 1, x.judge(0, 0, 0));
        due("judge(1, 0, 0)", NONE, x.judge(1, 0, 0));
        due("judge(-1, 0, 0)", NONE, x.judge(-1, 0, 0));
        due("judge(0, 6, 0)", NONE, x.judge(0, 6, 0));
        due("judge(0, -1, 0)", NONE, x.judge(0, -1, 0));
        for (int sort : new int[] {0, 1, 2, 4}) {
            x.tape(1, sort, 0);
            due("a row of none, of sort " + sort, CAST, x.judge(0, 1, 0));
            due("below 0, of sort " + sort, CAST, x.judge(0, 1, -1));
            due("no such STAGE", NONE, x.judge(1, 1, 0));
        }
    }

    /** "All is as THE IMAGE"; "STATE: there is none." */
    private static void image() {
        check.about("Promises 34, 35, image, undo");
        KeepCount x = new KeepCount();
        due("undo()", STATE, x.undo());
        due("image() of nothing", 0, x.image());
        KeepCount full = Made.FULL.make();
        due("undo()", 22, full.undo());
        due("SEEN are none", 0, full.count(0));
        due("EVENTS are none", 0, full.count(1));
        due("THE TEXT stays", 100, full.count(2));
        due("image()", 22, full.image());
        for (int c = 0; c < 8; c++) {
            x.candidate();
        }
        for (int b = 0; b < 24; b++) {
            x.ballot(1, 1);
        }
        due("undo()", 0, x.undo());
        due("told(0)", 0, x.told(0));
        due("told(1)", 0, x.told(1));
        due("told(2)", 0, x.told(2));
        due("candidate()", 0, x.candidate());
        due("undo() once more", 0, x.undo());
        due("told(0)", 0, x.told(0));
        KeepCount seen = Made.candidates(3);
        seen.see(1, false);
        seen.see(0, true);
        seen.event(2, 2);
        seen.event(0, 2);
        due("fits(1)", 1, seen.fits(1));
        due("after()", 3, seen.after());
        seen.image();
        seen.see(-1, true);
        seen.see(1, true);
        seen.see(2, false);
        seen.event(-1, 0);
        seen.event(0, 0);
        seen.event(2, 1);
        due("fits(1)", 2, seen.fits(1));
        due("after()", 2, seen.after());
        seen.undo();
        due("fits(1) as it was", 1, seen.fits(1));
        due("fits(0) as it was", 1, seen.fits(0));
        due("after() as it was", 3, seen.after());
    }

    /** "a row of n (0 .. 60) of a sort, all 0, or holds nothing (sort -1: n does not matter)". */
    private static void sizes() {
        check.about("Promise 37, tape");
        KeepCount x = new KeepCount();
        for (int tape = 0; tape < 6; tape += 5) {
            for (int sort = 0; sort <= 4; sort++) {
                due("tape of 61", BAD, x.tape(tape, sort, 61));
                due("tape of -1", SIZE, x.tape(tape, sort, -1));
                due("tape of 60", 1, x.tape(tape, sort, 60));
                due("item(59)", 1, x.item(tape, 59, 1));
                due("item(60)", PLACE, x.item(tape, 60, 1));
                due("tape of 61", BAD, x.tape(tape, sort, 61));
                due("it is as it was", 1, x.peek(tape, 59));
                due("tape of 0", 1, x.tape(tape, sort, 0));
                due("item(0)", PLACE, x.item(tape, 0, 1));
                due("tape of 60", 1, x.tape(tape, sort, 60));
                due("all 0", 0, x.peek(tape, 59));
                for (int n : new int[] {0, 60, 61, -1, MIN, MAX}) {
                    due("tape(-1, " + n + ")", 1, x.tape(tape, -1, n));
                    due("it holds nothing", NOTHING, x.item(tape, 0, 1));
                }
            }
        }
        due("tape(6, -1, 0)", NONE, x.tape(6, -1, 0));
        due("tape(-1, -1, 0)", NONE, x.tape(-1, -1, 0));
        due("tape(0, 5, 0)", BAD, x.tape(0, 5, 0));
        due("tape(0, -2, 0)", BAD, x.tape(0, -2, 0));
        due("BAD ahead of SIZE", BAD, x.tape(0, 5, -1));
    }

    /** "its lowest bits, as many as an item has". */
    private static void lowestBits() {
        check.about("Promise 38, item");
        KeepCount x = new KeepCount();
        for (int sort = 0; sort <= 3; sort++) {
            int bits = 8 << sort;
            long most = Long.MAX_VALUE >> 64 - bits;
            long least = -most - 1;
            x.tape(sort, sort, 3);
            long[] put = {most, most + 1, least, least - 1, most * 2 + 1, (most + 1) * 2, -1, 1, 0, (most + 1) * 2 + 5,
                Long.MIN_VALUE, Long.MAX_VALUE};
            long[] due = {most, least, least, most, -1, 0, -1, 1, 0, 5, sort == 3 ? Long.MIN_VALUE : 0,
                sort == 3 ? Long.MAX_VALUE : -1};
            for (int k = 0; k < put.length; k++) {
                due("item(" + sort + ", 1, " + put[k] + ")", 1, x.item(sort, 1, put[k]));
                due("peek of " + put[k], due[k], x.peek(sort, 1));
                due("the one ahead", 0, x.peek(sort, 0));
                due("the one behind", 0, x.peek(sort, 2));
            }
            due("item(" + sort + ", 3, 1)", PLACE, x.item(sort, 3, 1));
            due("item(" + sort + ", -1, 1)", PLACE, x.item(sort, -1, 1));
            due("item(" + sort + ", MIN, 1)", PLACE, x.item(sort, MIN, 1));
            due("item(" + sort + ", MAX, 1)", PLACE, x.item(sort, MAX, 1));
        }
    }

    /** "booleans: whether v is not 0". */
    private static void booleans() {
        check.about("Promise 38, booleans");
        KeepCount x = new KeepCount();
        x.tape(0, 4, 1);
        long[] put = {1, 0, -1, 2, 0, 256, 65536, 1L << 32, 1L << 63, 0, Long.MAX_VALUE};
        for (long v : put) {
            due("item(0, 0, " + v + ")", 1, x.item(0, 0, v));
            due("peek of " + v, v != 0 ? 1 : 0, x.peek(0, 0));
        }
        due("item(0, 1, 1)", PLACE, x.item(0, 1, 1));
    }

    /** "NO: no such TAPE, nothing there, no such place." */
    private static void peekOfNothing() {
        check.about("Promise 39, peek");
        KeepCount x = new KeepCount();
        for (int tape = -1; tape <= 6; tape++) {
            due("nothing there", NO, x.peek(tape, 0));
        }
        x.tape(5, 2, 60);
        x.item(5, 0, 3);
        x.item(5, 59, 4);
        due("peek(5, 0)", 3, x.peek(5, 0));
        due("peek(5, 59)", 4, x.peek(5, 59));
        due("peek(5, 60)", NO, x.peek(5, 60));
        due("peek(5, -1)", NO, x.peek(5, -1));
        due("peek(5, MIN)", NO, x.peek(5, MIN));
        due("peek(5, MAX)", NO, x.peek(5, MAX));
        x.tape(5, -1, 60);
        due("nothing there any more", NO, x.peek(5, 0));
        due("nothing there any more", NO, x.peek(5, 59));
        x.tape(5, 2, 0);
        due("a row of none", NO, x.peek(5, 0));
    }

    /** "PLACE: n, i or j is below 0, or beyond either's end." */
    private static void shiftToTheEnds() {
        check.about("Promise 40, shift, the ends");
        KeepCount x = new KeepCount();
        x.tape(0, 3, 60);
        x.tape(5, 3, 4);
        for (int i = 0; i < 60; i++) {
            x.item(0, i, i + 1);
        }
        due("none, from the end to the end", 0, x.shift(0, 60, 5, 4, 0));
        due("none, from behind the end", PLACE, x.shift(0, 61, 5, 4, 0));
        due("none, to behind the end", PLACE, x.shift(0, 60, 5, 5, 0));
        due("the last 4", 4, x.shift(0, 56, 5, 0, 4));
        due("5", PLACE, x.shift(0, 55, 5, 0, 5));
        due("4 from 57 on", PLACE, x.shift(0, 57, 5, 0, 4));
        due("4 to 1", PLACE, x.shift(0, 56, 5, 1, 4));
        for (int i = 0; i < 4; i++) {
            due("peek(5, " + i + ")", 57 + i, x.peek(5, i));
        }
        due("all to itself", 60, x.shift(0, 0, 0, 0, 60));
        due("59 to itself, by 1", 59, x.shift(0, 0, 0, 1, 59));
        for (int i = 0; i < 60; i++) {
            due("peek(0, " + i + ")", i == 0 ? 1 : i, x.peek(0, i));
        }
        due("59 to itself, back", 59, x.shift(0, 1, 0, 0, 59));
        due("peek(0, 58)", 59, x.peek(0, 58));
        due("peek(0, 59)", 59, x.peek(0, 59));
        due("60 to itself, by 1", PLACE, x.shift(0, 0, 0, 1, 60));
        due("61", PLACE, x.shift(0, 0, 0, 0, 61));
        int[] wild = {-1, MIN, MAX};
        for (int w : wild) {
            due("from " + w, PLACE, x.shift(0, w, 5, 0, 1));
            due("to " + w, PLACE, x.shift(0, 0, 5, w, 1));
            due(w + " items", PLACE, x.shift(0, 0, 5, 0, w));
            due(w + " items from " + w, PLACE, x.shift(0, w, 5, w, w));
            due(w + " items from 1 on", PLACE, x.shift(0, 1, 5, 1, w));
        }
    }

    /** "NONE: tapes; NOTHING; CAST: of unlike sorts; PLACE". */
    private static void shiftOfSorts() {
        check.about("Promise 40, shift, sorts");
        KeepCount x = new KeepCount();
        for (int sort = 0; sort <= 4; sort++) {
            x.tape(sort, sort, 2);
            x.item(sort, 0, 1);
        }
        for (int a = -1; a <= 6; a++) {
            for (int b = -1; b <= 6; b++) {
                boolean none = a < 0 || a > 5 || b < 0 || b > 5;
                int due = none ? NONE : a == 5 || b == 5 ? NOTHING : a != b ? CAST : 1;
                due("shift(" + a + ", 0, " + b + ", 1, 1)", due, x.shift(a, 0, b, 1, 1));
                due("shift(" + a + ", 0, " + b + ", 2, 1)", due == 1 ? PLACE : due, x.shift(a, 0, b, 2, 1));
            }
        }
        for (int sort = 0; sort <= 4; sort++) {
            due("it came", 1, x.peek(sort, 1));
        }
    }
}
