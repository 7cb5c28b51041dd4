/** Each promise by itself: ordinary calls, the edges that the document names, wrong calls. */
public final class PromisesTest {
    private static final int NONE = -1, BAD = -2, STATE = -3, FULL = -4, LACKS = -5, OVER = -15;
    private static final int NOTHING = -11, CAST = -12, PLACE = -13, SIZE = -14;
    private static final long NO = Long.MIN_VALUE;
    private static final int MIN = Integer.MIN_VALUE, MAX = Integer.MAX_VALUE;

    private static final Check check = new Check();

    private static void due(String call, long want, long got) {
        check.due(call, want, got);
    }

    public static void main(String[] args) {
        constants();
        newObject();
        candidate();
        ballot();
        many();
        drop();
        gone();
        set();
        swap();
        of();
        ballotOf();
        rowOf();
        told();
        theCountOfThree();
        ended();
        filled();
        roundsAndLimit();
        keepStaysBehindExclusion();
        excludedByStagesAndLot();
        moreThanSeats();
        quotaExactly();
        keepOfNoVotes();
        keepRoundedUp();
        countAfterEachChange();
        votesOfNothing();
        elected();
        ranked();
        standing();
        pile();
        preferred();
        best();
        share();
        without();
        raised();
        needs();
        see();
        fits();
        event();
        after();
        feed();
        read();
        readRefusals();
        faults();
        cause();
        judge();
        imageAndUndo();
        count();
        tape();
        item();
        peek();
        shift();
        check.end(600);
    }

    private static KeepCount with(int candidates) {
        KeepCount x = new KeepCount();
        for (int c = 0; c < candidates; c++) {
            x.candidate();
        }
        return x;
    }

    /** Candidates, then rows and how many of each. */
    private static KeepCount with(int candidates, int... rowsAndMany) {
        KeepCount x = with(candidates);
        for (int k = 0; k + 1 < rowsAndMany.length; k += 2) {
            x.ballot(rowsAndMany[k], rowsAndMany[k + 1]);
        }
        return x;
    }

    private static int readText(KeepCount x, String text) {
        for (int k = 0; k < text.length(); k++) {
            x.feed(text.charAt(k));
        }
        return x.read();
    }

    private static void constants() {
        check.about("constants");
        due("NONE", -1, KeepCount.NONE);
        due("BAD", -2, KeepCount.BAD);
        due("STATE", -3, KeepCount.STATE);
        due("FULL", -4, KeepCount.FULL);
        due("OVER", -15, KeepCount.OVER);
        due("NO", Long.MIN_VALUE, KeepCount.NO);
    }

    private static void newObject() {
        check.about("1 a new object");
        KeepCount x = new KeepCount();
        int[] first = {0, 0, 0, 1, 1000, 20, 0, 0, 0};
        for (int what = 0; what < first.length; what++) {
            due("told(" + what + ")", first[what], x.told(what));
        }
        for (int what = 0; what < 3; what++) {
            due("count(" + what + ")", 0, x.count(what));
        }
        for (int tape = 0; tape < 6; tape++) {
            due("item(" + tape + ", 0, 0)", NOTHING, x.item(tape, 0, 0));
        }
        due("cause(0, 0)", LACKS, x.cause(0, 0));
        due("undo()", STATE, x.undo());
        x.candidate();
        due("told(0) of another", 0, new KeepCount().told(0));
    }

    private static void candidate() {
        check.about("2 candidate");
        KeepCount x = new KeepCount();
        for (int c = 0; c < 8; c++) {
            due("candidate()", c, x.candidate());
            due("its place in the lot", c, x.of(c, 2));
            due("its fate", c == 0 ? 2 : 3, x.of(c, 0));
        }
        due("the 9th", FULL, x.candidate());
        due("told(0)", 8, x.told(0));
        KeepCount y = with(2);
        y.swap(0, 1);
        y.candidate();
        due("last in the lot", 2, y.of(2, 2));
    }

    private static void ballot() {
        check.about("3 ballot");
        KeepCount x = with(3);
        due("ballot(312, 5)", 0, x.ballot(312, 5));
        due("ballot(3, 0)", 1, x.ballot(3, 0));
        due("ballot(1, 1000000)", 2, x.ballot(1, 1000000));
        int[] badRows = {0, -1, -12, 4, 14, 10, 102, 11, 121, 3213, MIN, MAX, 123456789};
        for (int row : badRows) {
            due("ballot(" + row + ", 1)", BAD, x.ballot(row, 1));
        }
        due("many below 0", BAD, x.ballot(1, -1));
        due("many above", BAD, x.ballot(1, 1000001));
        due("many far above", BAD, x.ballot(1, MAX));
        due("many far below", BAD, x.ballot(1, MIN));
        due("told(1)", 3, x.told(1));
        KeepCount eight = with(8);
        due("ballot(87654321, 1)", 0, eight.ballot(87654321, 1));
        due("ballot(9, 1)", BAD, eight.ballot(9, 1));
        due("ballot(12345679, 1)", BAD, eight.ballot(12345679, 1));
        due("ballot(112345678, 1)", BAD, eight.ballot(112345678, 1));
        for (int b = 1; b < 24; b++) {
            due("ballot(1, 0)", b, eight.ballot(1, 0));
        }
        due("the 25th", FULL, eight.ballot(1, 0));
        due("the 25th, bad", BAD, eight.ballot(0, 0));
        due("the 25th that would be OVER", FULL, fullOfMany().ballot(1, 1000000));
        KeepCount gone = with(2);
        gone.gone(0, true);
        due("with a gone one", 0, gone.ballot(12, 1));
        overBallot();
    }

    private static KeepCount fullOfMany() {
        KeepCount x = with(1);
        for (int b = 0; b < 4; b++) {
            x.ballot(1, 1000000);
        }
        for (int b = 4; b < 24; b++) {
            x.ballot(1, 0);
        }
        return x;
    }

    private static void overBallot() {
        check.about("3 ballot, OVER");
        KeepCount x = with(1, 1, 1000000, 1, 1000000, 1, 1000000, 1, 1000000);
        due("ballot(1, 611687)", OVER, x.ballot(1, 611687));
        due("told(1)", 4, x.told(1));
        due("cause(0, 1)", 4, x.cause(0, 1));
        due("cause(1, 1)", 4, x.cause(1, 1));
        due("ballot(1, 611686)", 4, x.ballot(1, 611686));
        due("ballot(1, 0)", 5, x.ballot(1, 0));
        due("ballot(1, 1)", OVER, x.ballot(1, 1));
        due("cause(0, 1)", 6, x.cause(0, 1));
        due("cause(1, 1)", 6, x.cause(1, 1));
        due("BAD ahead of OVER", BAD, x.ballot(1, 1000001));
        due("votes", 4611686000000L, x.votes(0, 0, 0));
    }

    private static void many() {
        check.about("4 many");
        KeepCount x = with(2, 1, 5, 2, 7);
        due("many(0, 9)", 5, x.many(0, 9));
        due("many(0, 0)", 9, x.many(0, 0));
        due("many(0, 1000000)", 0, x.many(0, 1000000));
        due("ballotOf(0, 0)", 1000000, x.ballotOf(0, 0));
        due("many(2, 1)", NONE, x.many(2, 1));
        due("many(-1, 1)", NONE, x.many(-1, 1));
        due("many(24, 1)", NONE, x.many(24, 1));
        due("many(MIN, 1)", NONE, x.many(MIN, 1));
        due("NONE ahead of BAD", NONE, x.many(2, -1));
        due("many(1, -1)", BAD, x.many(1, -1));
        due("many(1, 1000001)", BAD, x.many(1, 1000001));
        due("elected", 1, x.told(7));
        x.many(0, 6);
        due("elected then", 2, x.told(7));
        KeepCount y = with(1, 1, 1000000, 1, 600000, 1, 1000000, 1, 1000000, 1, 1000000);
        due("many(1, 611687)", OVER, y.many(1, 611687));
        due("it is as it was", 600000, y.ballotOf(1, 0));
        due("cause(0, 0)", 5, y.cause(0, 0));
        due("cause(0, 1): all there are", 5, y.cause(0, 1));
        due("cause(1, 0)", 6, y.cause(1, 0));
        due("cause(1, 1): the first by which", 4, y.cause(1, 1));
        due("cause(2, 0)", 7, y.cause(2, 0));
        due("cause(2, 1)", 0, y.cause(2, 1));
        due("cause(3, 0)", LACKS, y.cause(3, 0));
        due("many(1, 611686)", 600000, y.many(1, 611686));
        KeepCount z = with(1, 1, 1000000, 1, 1000000, 1, 1000000, 1, 600000, 1, 1000000, 1, 0);
        z.many(5, 11686);
        due("many(3, 1000000)", OVER, z.many(3, 1000000));
        due("cause(0, 1)", 6, z.cause(0, 1));
        due("cause(1, 1)", 4, z.cause(1, 1));
    }

    private static void drop() {
        check.about("5 drop");
        KeepCount x = with(2, 1, 5, 2, 7);
        due("drop()", 1, x.drop());
        due("ballotOf(1, 0)", NONE, x.ballotOf(1, 0));
        due("elected", 1, x.told(7));
        due("drop()", 0, x.drop());
        due("drop()", STATE, x.drop());
        due("told(1)", 0, x.told(1));
        due("ballot", 0, x.ballot(2, 3));
        due("elected", 2, x.told(7));
        KeepCount y = fullOfMany();
        due("drop()", 23, y.drop());
        due("many(22, 611686)", 0, y.many(22, 611686));
        due("drop()", 22, y.drop());
        due("ballot(1, 611686)", 22, y.ballot(1, 611686));
    }

    private static void gone() {
        check.about("6 gone");
        KeepCount x = with(3, 123, 5, 23, 4, 3, 3);
        due("gone(0, false)", 0, x.gone(0, false));
        due("gone(0, true)", 0, x.gone(0, true));
        due("gone(0, true)", 1, x.gone(0, true));
        due("fate", 0, x.of(0, 0));
        due("elected", 2, x.told(7));
        due("piles", 2, x.told(8));
        due("gone(0, false)", 1, x.gone(0, false));
        due("gone(0, false)", 0, x.gone(0, false));
        due("piles", 3, x.told(8));
        due("gone(3, true)", NONE, x.gone(3, true));
        due("gone(-1, true)", NONE, x.gone(-1, true));
        due("gone(8, false)", NONE, x.gone(8, false));
        due("gone(MAX, true)", NONE, x.gone(MAX, true));
    }

    private static void set() {
        check.about("7 set");
        KeepCount x = with(3, 1, 3, 2, 2, 3, 1);
        due("set(0, 7)", 1, x.set(0, 7));
        due("set(0, 1)", 7, x.set(0, 1));
        due("set(0, 2)", 1, x.set(0, 2));
        due("told(3)", 2, x.told(3));
        due("set(1, 0)", 1000, x.set(1, 0));
        due("set(1, 1000000000)", 0, x.set(1, 1000000000));
        due("told(4)", 1000000000, x.told(4));
        due("set(2, 1)", 20, x.set(2, 1));
        due("set(2, 20)", 1, x.set(2, 20));
        due("told(5)", 20, x.told(5));
        int[][] bad = {{0, 0}, {0, 8}, {0, MIN}, {0, MAX}, {1, -1}, {1, 1000000001}, {1, MIN}, {1, MAX},
            {2, 0}, {2, 21}, {2, MIN}, {2, MAX}};
        for (int[] call : bad) {
            due("set(" + call[0] + ", " + call[1] + ")", BAD, x.set(call[0], call[1]));
        }
        due("set(3, 1)", NONE, x.set(3, 1));
        due("set(-1, 1)", NONE, x.set(-1, 1));
        due("set(3, -1)", NONE, x.set(3, -1));
        due("told(3)", 2, x.told(3));
        due("told(4)", 1000000000, x.told(4));
        due("told(5)", 20, x.told(5));
    }

    private static void swap() {
        check.about("8 swap");
        KeepCount x = with(3);
        due("swap(0, 2)", 2, x.swap(0, 2));
        due("of(0, 2)", 2, x.of(0, 2));
        due("of(2, 2)", 0, x.of(2, 2));
        due("of(1, 2)", 1, x.of(1, 2));
        due("swap(2, 1)", 1, x.swap(2, 1));
        due("of(0, 2)", 1, x.of(0, 2));
        due("swap(1, 1)", NONE, x.swap(1, 1));
        due("swap(3, 0)", NONE, x.swap(3, 0));
        due("swap(0, 3)", NONE, x.swap(0, 3));
        due("swap(-1, 0)", NONE, x.swap(-1, 0));
        due("swap(0, -1)", NONE, x.swap(0, -1));
        due("the lot decides", 4, x.told(7));
        due("swap(0, 1)", 0, x.swap(0, 1));
        due("the lot decides otherwise", 1, x.told(7));
    }

    private static void of() {
        check.about("9 of");
        KeepCount x = with(4, 123, 5, 213, 4, 31, 8, 4, 2);
        x.gone(0, true);
        int[][] fates = {{0, LACKS, 0, 0}, {2, 1, 1, 9}, {1, LACKS, 2, 8}, {3, 0, 3, 2}};
        for (int c = 0; c < 4; c++) {
            for (int what = 0; what < 4; what++) {
                due("of(" + c + ", " + what + ")", fates[c][what], x.of(c, what));
            }
        }
        due("of(4, 0)", NONE, x.of(4, 0));
        due("of(-1, 0)", NONE, x.of(-1, 0));
        due("of(1, 4)", NONE, x.of(1, 4));
        due("of(1, -1)", NONE, x.of(1, -1));
    }

    private static void ballotOf() {
        check.about("10 ballotOf");
        KeepCount x = with(3, 312, 5, 2, 0);
        due("MANY", 5, x.ballotOf(0, 0));
        due("MANY 0", 0, x.ballotOf(1, 0));
        due("how many", 3, x.ballotOf(0, 1));
        due("how many", 1, x.ballotOf(1, 1));
        due("the first", 2, x.ballotOf(0, 2));
        x.gone(2, true);
        due("the first that isn't gone", 0, x.ballotOf(0, 2));
        due("how many as told", 3, x.ballotOf(0, 1));
        x.gone(1, true);
        due("none", LACKS, x.ballotOf(1, 2));
        due("ballotOf(2, 0)", NONE, x.ballotOf(2, 0));
        due("ballotOf(-1, 0)", NONE, x.ballotOf(-1, 0));
        due("ballotOf(0, 3)", NONE, x.ballotOf(0, 3));
        due("ballotOf(0, -1)", NONE, x.ballotOf(0, -1));
    }

    private static void rowOf() {
        check.about("11 rowOf");
        KeepCount x = with(8, 312, 5, 87654321, 1);
        due("rowOf(0, 0)", 2, x.rowOf(0, 0));
        due("rowOf(0, 1)", 0, x.rowOf(0, 1));
        due("rowOf(0, 2)", 1, x.rowOf(0, 2));
        due("rowOf(0, 3)", NONE, x.rowOf(0, 3));
        due("rowOf(0, -1)", NONE, x.rowOf(0, -1));
        for (int i = 0; i < 8; i++) {
            due("rowOf(1, " + i + ")", 7 - i, x.rowOf(1, i));
        }
        due("rowOf(1, 8)", NONE, x.rowOf(1, 8));
        due("rowOf(1, MAX)", NONE, x.rowOf(1, MAX));
        due("rowOf(2, 0)", NONE, x.rowOf(2, 0));
        due("rowOf(-1, 0)", NONE, x.rowOf(-1, 0));
        x.gone(2, true);
        due("as told, gone ones too", 2, x.rowOf(0, 0));
    }

    private static void told() {
        check.about("12 told");
        KeepCount x = with(4, 12, 5, 12, 4, 3, 1, 2, 0);
        x.set(0, 2);
        x.set(1, 5);
        x.set(2, 7);
        int[] due = {4, 4, 2, 2, 5, 7, 2, 3, 2};
        for (int what = 0; what < due.length; what++) {
            due("told(" + what + ")", due[what], x.told(what));
        }
        due("told(9)", NONE, x.told(9));
        due("told(-1)", NONE, x.told(-1));
    }

    /** 100 votes, 2 seats: 0 is elected, what is above QUOTA goes on to 1, not to 2. */
    private static void theCountOfThree() {
        check.about("13 to 15, a count worked out by hand");
        KeepCount x = with(3, 12, 60, 3, 25, 2, 15);
        x.set(0, 2);
        due("stages", 2, x.told(2));
        due("rounds of 0", 1, x.stageOf(0, 0));
        due("excluded in 0", LACKS, x.stageOf(0, 1));
        due("elected in 0", 1, x.stageOf(0, 2));
        due("QUOTA of 0", 33333334, x.amount(0, 0));
        due("EXCESS of 0", 0, x.amount(0, 1));
        due("SURPLUS of 0", 0, x.amount(0, 2));
        due("all VOTES of 0", 100000000, x.amount(0, 3));
        due("VOTES of 0 in 0", 60000000, x.votes(0, 0, 0));
        // 1000000 * 33333334 / 60000000 = 555555.6, rounded up; 60000000 * 0.555556 = 33333360
        due("KEEP of 0 in 1", 555556, x.votes(1, 0, 1));
        due("VOTES of 0 in 1", 33333360, x.votes(1, 0, 0));
        due("VOTES of 1 in 1", 15000000 + 60000000 - 33333360, x.votes(1, 1, 0));
        due("VOTES of 2 in 1", 25000000, x.votes(1, 2, 0));
        due("KEEP of 2 in 1", 1000000, x.votes(1, 2, 1));
        due("elected in 1", 2, x.stageOf(1, 2));
        due("rounds of 1", 1, x.stageOf(1, 0));
        due("SURPLUS of 1: of 0, not of 1", 26, x.amount(1, 2));
        due("no STAGE 2", NONE, x.stageOf(2, 0));
        due("no STAGE -1", NONE, x.stageOf(-1, 0));
        due("stageOf(0, 3)", NONE, x.stageOf(0, 3));
        due("stageOf(0, -1)", NONE, x.stageOf(0, -1));
        due("amount(2, 0)", NO, x.amount(2, 0));
        due("amount(-1, 0)", NO, x.amount(-1, 0));
        due("amount(0, 4)", NO, x.amount(0, 4));
        due("amount(0, -1)", NO, x.amount(0, -1));
        due("votes(2, 0, 0)", NO, x.votes(2, 0, 0));
        due("votes(-1, 0, 0)", NO, x.votes(-1, 0, 0));
        due("votes(0, 3, 0)", NO, x.votes(0, 3, 0));
        due("votes(0, -1, 0)", NO, x.votes(0, -1, 0));
        due("votes(0, 0, 2)", NO, x.votes(0, 0, 2));
        due("votes(0, 0, -1)", NO, x.votes(0, 0, -1));
    }

    private static void ended() {
        check.about("the count ends");
        KeepCount x = with(2, 1, 5, 2, 7);
        x.gone(0, true);
        x.gone(1, true);
        due("nobody is hopeful: stages", 0, x.told(2));
        due("elected", 0, x.told(6));
        due("piles", 0, x.told(8));
        KeepCount y = with(3, 1, 5, 2, 7, 3, 1);
        due("as many elected as seats: stages", 1, y.told(2));
        due("the others are hopeful", 1, y.of(2, 0));
        due("and 0", 1, y.of(0, 0));
    }

    private static void filled() {
        check.about("FILLED");
        KeepCount x = with(3, 1, 5, 2, 7, 31, 6);
        x.gone(2, true);
        x.set(0, 3);
        due("stages", 1, x.told(2));
        due("rounds", 0, x.stageOf(0, 0));
        due("excluded", LACKS, x.stageOf(0, 1));
        due("elected", 3, x.stageOf(0, 2));
        due("the most first", 0, x.elected(0));
        due("then", 1, x.elected(1));
        due("QUOTA", 18000000 / 4 + 1, x.amount(0, 0));
        due("SURPLUS", 0, x.amount(0, 2));
        due("VOTES of a gone one", 0, x.votes(0, 2, 0));
        due("KEEP of a gone one", 0, x.votes(0, 2, 1));
        // 0 is elected, and turned in STAGE 1, where 2 is excluded; then 1 fills it, KEEPS as they were
        KeepCount y = with(3, 1, 60, 2, 2, 3, 1);
        y.set(0, 2);
        y.set(2, 1);
        due("stages", 3, y.told(2));
        due("STAGE 1 excludes", 2, y.stageOf(1, 1));
        due("KEEP in 1", 350000 + 1, y.votes(1, 0, 1));
        due("STAGE 2 is FILLED", 0, y.stageOf(2, 0));
        due("KEEP in 2", 350001, y.votes(2, 0, 1));
        due("KEEP of the excluded one in 1", 1000000, y.votes(1, 2, 1));
        due("KEEP of the excluded one in 2", 0, y.votes(2, 2, 1));
        due("SURPLUS in 2", 0, y.amount(2, 2));
        due("EXCESS in 1", 60000000 - 21000060, y.amount(1, 1));
        due("EXCESS in 2", 60000000 - 21000060 + 1000000, y.amount(2, 1));
        due("all VOTES in 2", 21000060 + 2000000, y.amount(2, 3));
    }

    private static void roundsAndLimit() {
        check.about("ROUNDS, LIMIT");
        KeepCount x = with(4, 1, 60, 2, 5, 3, 4, 4, 3);
        x.set(0, 2);
        x.set(1, 0);
        x.set(2, 3);
        due("3 ROUNDS at most", 3, x.stageOf(1, 0));
        due("then one is excluded", 3, x.stageOf(1, 1));
        due("SURPLUS above LIMIT", 1, x.amount(1, 2) > 0 ? 1 : 0);
        x.set(2, 20);
        int rounds = x.stageOf(1, 0);
        due("more ROUNDS", 1, rounds > 3 && rounds <= 20 ? 1 : 0);
        x.set(2, 1);
        long surplus = x.amount(1, 2);
        x.set(2, 20);
        x.set(1, (int) surplus);
        due("SURPLUS as LIMIT", 1, x.stageOf(1, 0));
        x.set(1, (int) surplus - 1);
        due("SURPLUS above LIMIT by 1", 2, x.stageOf(1, 0));
        due("LIMIT does not matter where one is elected", LACKS, x.stageOf(0, 1));
    }

    private static void keepStaysBehindExclusion() {
        check.about("KEEPS behind an exclusion");
        KeepCount x = with(4, 1, 60, 2, 10, 3, 9, 4, 8);
        x.set(0, 2);
        x.set(2, 1);
        due("STAGE 1 excludes", 3, x.stageOf(1, 1));
        due("KEEP in 2 as in 1", x.votes(1, 0, 1), x.votes(2, 0, 1));
        x.set(2, 2);
        due("KEEP in 2 turns by the 2nd ROUND", 1, x.votes(2, 0, 1) < x.votes(1, 0, 1) ? 1 : 0);
    }

    private static void excludedByStagesAndLot() {
        check.about("fewest VOTES, STAGES ahead, THE LOT");
        KeepCount lot = with(3);
        lot.swap(1, 2);
        due("the last in the lot", 1, lot.stageOf(0, 1));
        due("then", 2, lot.stageOf(1, 1));
        due("left", 1, lot.told(7));
        // In STAGE 1 1 and 2 have 5 each, in STAGE 0 1 has 5, 2 has 4.
        KeepCount x = with(4, 1, 6, 2, 5, 3, 4, 43, 1);
        due("STAGE 0", 3, x.stageOf(0, 1));
        due("like in STAGE 1", x.votes(1, 1, 0), x.votes(1, 2, 0));
        due("STAGE 1: fewest in STAGE 0", 2, x.stageOf(1, 1));
        x.swap(1, 2);
        due("whatever the lot says", 2, x.stageOf(1, 1));
        // The STAGE right ahead goes first: there 2 has 10 and 3 has 11, in STAGE 0 2 had 10 and 3 had 9.
        KeepCount y = with(6, 1, 40, 2, 40, 3, 10, 4, 9, 53, 1, 5, 2, 64, 2);
        due("STAGE 0", 5, y.stageOf(0, 1));
        due("STAGE 1", 4, y.stageOf(1, 1));
        due("like in STAGE 2", 11000000, y.votes(2, 2, 0));
        due("like in STAGE 2", 11000000, y.votes(2, 3, 0));
        due("STAGE 2: fewest in STAGE 1", 2, y.stageOf(2, 1));
        // Like in STAGE 2 and 1, unlike in STAGE 0.
        KeepCount z = with(6, 1, 40, 2, 40, 3, 10, 4, 9, 5, 5, 64, 1);
        due("STAGE 0", 5, z.stageOf(0, 1));
        due("STAGE 1", 4, z.stageOf(1, 1));
        due("like in STAGE 1", z.votes(1, 2, 0), z.votes(1, 3, 0));
        due("STAGE 2: fewest in STAGE 0", 3, z.stageOf(2, 1));
        z.swap(2, 3);
        due("whatever the lot says", 3, z.stageOf(2, 1));
    }

    private static void moreThanSeats() {
        check.about("more reach QUOTA than SEATS are left");
        KeepCount x = with(3, 1, 5, 2, 5);
        x.set(0, 1);
        due("QUOTA", 5000001, x.amount(0, 0));
        due("nobody reaches it", 2, x.stageOf(0, 1));
        KeepCount order = with(4, 1, 30, 2, 40, 3, 40, 4, 5);
        order.set(0, 3);
        due("all three at once", 7, order.stageOf(0, 2));
        due("the most first, by the lot", 1, order.elected(0));
        due("second", 2, order.elected(1));
        due("third", 0, order.elected(2));
        order.swap(1, 2);
        due("the other lot", 2, order.elected(0));
    }

    /** Numbers at which six HOPEFUL ones have QUOTA to the millionth, and five SEATS are left. */
    private static void quotaExactly() {
        check.about("QUOTA exactly, of more than there are SEATS left");
        KeepCount x = with(8, 123, 1, 124, 1, 125, 1, 126, 1, 127, 1, 128, 1, 3, 1, 4, 1, 5, 1, 6, 1, 7, 1, 8, 1, 1, 1);
        x.set(0, 7);
        x.set(1, 0);
        due("QUOTA", 1527273, x.amount(2, 0));
        for (int c = 2; c < 8; c++) {
            due("VOTES of " + c, 1527273, x.votes(2, c, 0));
        }
        due("one ELECTED has less", 1527270, x.votes(2, 1, 0));
        due("which counts 0 in SURPLUS", 1, x.amount(2, 2));
        due("those ahead in the lot", 4 + 8 + 16 + 32 + 64, x.stageOf(2, 2));
        due("7 are ELECTED", 7, x.told(6));
        due("the last is HOPEFUL", 1, x.of(7, 0));
        x.swap(3, 7);
        due("those ahead in the other lot", 4 + 16 + 32 + 64 + 128, x.stageOf(2, 2));
        due("second of them", 7, x.elected(3));
        KeepCount y = with(7, 3425, 1, 3426, 1, 3427, 1, 1425, 1, 1426, 1, 1427, 1, 24, 1);
        y.set(0, 6);
        y.set(1, 0);
        due("QUOTA", 907122, y.amount(3, 0));
        due("VOTES", 907122, y.votes(3, 6, 0));
        due("two of three", 16 + 32, y.stageOf(3, 2));
        due("SURPLUS", 0, y.amount(3, 2));
        due("ROUNDS", 11, y.stageOf(3, 0));
    }

    private static void keepOfNoVotes() {
        check.about("KEEP of an ELECTED one without VOTES is as it is");
        KeepCount x = with(7, 752, 1, 72, 1);
        x.set(0, 6);
        x.set(1, 0);
        due("ROUNDS", 20, x.stageOf(2, 0));
        due("VOTES", 0, x.votes(2, 1, 0));
        due("KEEP", 1, x.votes(2, 1, 1));
        due("QUOTA", 1, x.amount(2, 0));
        due("EXCESS", 1999997, x.amount(2, 1));
        due("excluded", 5, x.stageOf(2, 1));
    }

    private static void keepRoundedUp() {
        check.about("KEEP rounded up");
        KeepCount x = with(4, 1, 1);
        x.set(0, 2);
        x.set(1, 0);
        x.set(2, 1);
        due("QUOTA of 0", 333334, x.amount(0, 0));
        due("nothing to round", 333334, x.votes(1, 0, 1));
        x.set(2, 2);
        due("nothing to round once more", 111112, x.votes(1, 0, 1));
        x.many(0, 3);
        x.set(2, 1);
        // 1000000 * 1000001 / 3000000 = 333333.7
        due("rounded up", 333334, x.votes(1, 0, 1));
        x.many(0, 2);
        // 1000000 * 666667 / 2000000 = 333333.5
        due("rounded up from a half", 333334, x.votes(1, 0, 1));
        x.ballot(2, 1);
        // 1000000 * 1000001 / 2000000 = 500000.5
        due("rounded up to less", 500001, x.votes(1, 0, 1));
    }

    /** What was asked ahead of a change must not be told behind it. */
    private static void countAfterEachChange() {
        check.about("the count follows each change");
        KeepCount x = with(2, 1, 5, 2, 7);
        due("at first", 2, x.told(7));
        x.ballot(1, 3);
        due("ballot", 1, x.told(7));
        x.drop();
        due("drop", 2, x.told(7));
        x.many(0, 8);
        due("many", 1, x.told(7));
        x.gone(0, true);
        due("gone", 2, x.told(7));
        x.gone(0, false);
        due("not gone", 1, x.told(7));
        x.set(0, 2);
        due("SEATS", 3, x.told(7));
        x.candidate();
        due("candidate", 3, x.told(0));
        due("its VOTES", 0, x.votes(0, 2, 0));
        x.set(0, 3);
        due("SEATS", 7, x.told(7));
        x.image();
        x.set(0, 1);
        due("SEATS", 1, x.told(7));
        x.undo();
        due("undo", 7, x.told(7));
        KeepCount lot = with(2);
        due("the lot", 1, lot.told(7));
        lot.swap(0, 1);
        due("swap", 2, lot.told(7));
        KeepCount limit = with(4, 1, 60, 2, 5, 3, 4, 4, 3);
        limit.set(0, 2);
        due("ROUNDS at first", 1, limit.stageOf(1, 0) > 2 ? 1 : 0);
        limit.set(2, 2);
        due("ROUNDS", 2, limit.stageOf(1, 0));
        limit.set(1, 1000000000);
        due("LIMIT", 1, limit.stageOf(1, 0));
        KeepCount text = with(2, 1, 5, 2, 7);
        due("THE TEXT", 2, text.told(7));
        readText(text, "b1*9");
        due("read", 1, text.told(7));
        due("what would be changes nothing", 2, text.without(0));
        due("what would be changes nothing", 1, text.told(7));
    }

    private static void votesOfNothing() {
        check.about("no votes");
        KeepCount x = with(3);
        due("QUOTA", 1, x.amount(0, 0));
        due("all VOTES", 0, x.amount(0, 3));
        due("EXCESS", 0, x.amount(0, 1));
        due("STAGE 0 excludes the last", 2, x.stageOf(0, 1));
        due("STAGE 2 is FILLED", 0, x.stageOf(2, 0));
        due("elected", 1, x.told(7));
        KeepCount y = with(2, 12, 0);
        due("MANY 0 brings nothing", 0, y.amount(0, 3));
    }

    private static void elected() {
        check.about("16 elected");
        KeepCount x = with(4, 3, 60, 2, 25, 1, 15);
        x.set(0, 2);
        due("elected(0)", 2, x.elected(0));
        due("elected(1)", 1, x.elected(1));
        due("elected(2)", LACKS, x.elected(2));
        due("elected(-1)", LACKS, x.elected(-1));
        due("elected(MAX)", LACKS, x.elected(MAX));
        due("elected(MIN)", LACKS, x.elected(MIN));
    }

    private static void ranked() {
        check.about("17 ranked");
        KeepCount x = with(8, 1, 1, 2, 10, 3, 9, 4, 9, 5, 2, 6, 30, 7, 12);
        x.gone(7, true);
        x.gone(6, true);
        x.swap(2, 3);
        x.many(5, 20);
        // 51 votes: 0 (1), 4 (2), 2 (9, as 3 has, but behind it in the lot) are excluded, then 5 has QUOTA
        due("stages", 4, x.told(2));
        int[] due = {5, 1, 3, 2, 4, 0, 6, 7};
        for (int i = 0; i < 8; i++) {
            due("ranked(" + i + ")", due[i], x.ranked(i));
        }
        due("ranked(8)", NONE, x.ranked(8));
        due("ranked(-1)", NONE, x.ranked(-1));
        KeepCount y = with(4, 1, 30, 2, 5, 3, 6, 4, 6);
        y.swap(2, 3);
        due("elected first", 0, y.ranked(0));
        due("hopeful by votes, then the lot", 3, y.ranked(1));
        due("then", 2, y.ranked(2));
        due("then", 1, y.ranked(3));
    }

    private static void standing() {
        check.about("18 standing");
        KeepCount x = with(5, 1, 5, 2, 7, 3, 5, 5, 99);
        x.gone(4, true);
        x.swap(0, 2);
        int[] due = {1, 2, 0, 3};
        for (int i = 0; i < 4; i++) {
            due("standing(0, " + i + ")", due[i], x.standing(0, i));
        }
        due("not the gone one", NONE, x.standing(0, 4));
        due("standing(0, -1)", NONE, x.standing(0, -1));
        due("standing(0, MAX)", NONE, x.standing(0, MAX));
        due("standing(9, 0)", NONE, x.standing(9, 0));
        due("standing(-1, 0)", NONE, x.standing(-1, 0));
        due("the excluded one in STAGE 1", 3, x.standing(1, 3));
    }

    private static void pile() {
        check.about("19 pile");
        KeepCount x = with(4, 31, 5, 12, 1, 1, 2, 123, 4, 31, 8, 21, 16, 2, 0);
        int[][] due = {{1, 2}, {12, 1}, {123, 4}, {21, 16}, {31, 13}};
        due("piles", 5, x.told(8));
        for (int k = 0; k < due.length; k++) {
            due("pile(" + k + ", 0)", due[k][0], x.pile(k, 0));
            due("pile(" + k + ", 1)", due[k][1], x.pile(k, 1));
        }
        due("pile(5, 0)", NONE, x.pile(5, 0));
        due("pile(-1, 0)", NONE, x.pile(-1, 0));
        due("pile(0, 2)", NONE, x.pile(0, 2));
        due("pile(0, -1)", NONE, x.pile(0, -1));
        x.gone(0, true);
        int[][] then = {{2, 17}, {23, 4}, {3, 13}};
        due("piles", 3, x.told(8));
        for (int k = 0; k < then.length; k++) {
            due("pile(" + k + ", 0)", then[k][0], x.pile(k, 0));
            due("pile(" + k + ", 1)", then[k][1], x.pile(k, 1));
        }
        KeepCount eight = with(8, 87654321, 3, 8, 4, 12345678, 5);
        due("eight digits", 12345678, eight.pile(0, 0));
        due("one digit", 8, eight.pile(1, 0));
        due("eight digits", 87654321, eight.pile(2, 0));
    }

    private static void preferred() {
        check.about("20 preferred");
        KeepCount x = with(3, 123, 5, 2, 3, 31, 7, 13, 0);
        due("0 to 1", 12, x.preferred(0, 1));
        due("1 to 0", 3, x.preferred(1, 0));
        due("0 to 2", 5, x.preferred(0, 2));
        due("2 to 0", 7, x.preferred(2, 0));
        due("1 to 2", 8, x.preferred(1, 2));
        x.gone(0, true);
        due("gone, as told", 12, x.preferred(0, 1));
        due("the same", NONE, x.preferred(1, 1));
        due("preferred(3, 0)", NONE, x.preferred(3, 0));
        due("preferred(0, 3)", NONE, x.preferred(0, 3));
        due("preferred(-1, 0)", NONE, x.preferred(-1, 0));
        due("preferred(0, -1)", NONE, x.preferred(0, -1));
    }

    private static void best() {
        check.about("21 best");
        due("nobody", LACKS, new KeepCount().best());
        due("alone", 0, with(1).best());
        due("like ones", LACKS, with(2).best());
        KeepCount circle = with(3, 123, 5, 231, 5, 312, 5);
        due("a circle", LACKS, circle.best());
        circle.gone(1, true);
        due("without 1", 2, circle.best());
        circle.gone(2, true);
        due("0 alone", 0, circle.best());
        circle.gone(0, true);
        due("all gone", LACKS, circle.best());
        due("not the one of most votes", 1, with(3, 12, 6, 21, 3, 321, 5).best());
        due("not as many", LACKS, with(2, 12, 5, 21, 5).best());
    }

    private static void share() {
        check.about("22 share");
        KeepCount x = with(3, 1, 6, 2, 4, 3, 0);
        due("above", 3, x.share(0, 0, 0));
        due("below", 5, x.share(0, 0, 1));
        due("above", 2, x.share(0, 1, 0));
        due("below", 5, x.share(0, 1, 1));
        due("of 0 above", 0, x.share(0, 2, 0));
        due("of 0 below", 1, x.share(0, 2, 1));
        KeepCount y = with(2);
        due("no votes above", 0, y.share(0, 0, 0));
        due("no votes below", 1, y.share(0, 0, 1));
        KeepCount z = with(1, 1, 5);
        due("all above", 1, z.share(0, 0, 0));
        due("all below", 1, z.share(0, 0, 1));
        due("share(0, 3, 0)", NO, x.share(0, 3, 0));
        due("share(0, -1, 0)", NO, x.share(0, -1, 0));
        due("share(0, 0, 2)", NO, x.share(0, 0, 2));
        due("share(0, 0, -1)", NO, x.share(0, 0, -1));
        due("share(7, 0, 0)", NO, x.share(7, 0, 0));
        due("share(-1, 0, 0)", NO, x.share(-1, 0, 0));
        due("share(0, 2, 2)", NO, x.share(0, 2, 2));
    }

    private static void without() {
        check.about("23 without");
        KeepCount x = with(3, 12, 6, 2, 3, 3, 5);
        due("as it is", 1, x.told(7));
        due("without(0)", 2, x.without(0));
        due("without(1)", 1, x.without(1));
        due("it changes nothing", 1, x.told(7));
        due("it is not gone", 2, x.of(0, 0));
        x.gone(0, true);
        due("gone already", 2, x.without(0));
        due("without(3)", NONE, x.without(3));
        due("without(-1)", NONE, x.without(-1));
    }

    private static void raised() {
        check.about("24 raised");
        KeepCount x = with(3, 1, 6, 2, 5, 32, 2);
        due("as it is", 2, x.told(7));
        due("raised(2, 0)", 1, x.raised(2, 0));
        due("raised(1, 2)", 4, x.raised(1, 2));
        due("raised(2, 1)", 2, x.raised(2, 1));
        due("it changes nothing", 2, x.told(7));
        due("the row is as it was", 2, x.rowOf(2, 0));
        x.gone(0, true);
        due("a gone one", 2, x.raised(0, 0));
        due("raised(3, 0)", NONE, x.raised(3, 0));
        due("raised(-1, 0)", NONE, x.raised(-1, 0));
        due("raised(0, 3)", NONE, x.raised(0, 3));
        due("raised(0, -1)", NONE, x.raised(0, -1));
        // The others keep their order: 3 goes first, what 3 loses goes on to 1.
        KeepCount y = with(4, 2341, 5, 1, 4, 2, 2);
        due("whole row", 2, y.raised(0, 1));
        due("from the end", 1, y.raised(0, 0));
        due("from the middle", 8, y.raised(0, 3));
        // Raised, 3 is excluded first, and what it had goes on to 1, which stands ahead of 2.
        KeepCount z = with(4, 234, 3, 2, 4, 3, 5);
        due("the others as they stand", 2, z.raised(0, 3));
        KeepCount first = with(4, 134, 3, 1, 4, 3, 5);
        due("the others as they stand", 1, first.raised(0, 3));
        KeepCount eight = with(8, 87654321, 5, 1, 4);
        due("eight of them", 64, eight.raised(0, 6));
        eight.gone(6, true);
        due("a gone one is left out", 128, eight.raised(0, 6));
    }

    private static void needs() {
        check.about("25 needs");
        KeepCount x = with(2, 1, 10, 2, 4);
        due("elected already", 0, x.needs(0, 1));
        due("6 more: the lot", 7, x.needs(1, 1));
        due("by 2", 4, x.needs(1, 2));
        due("by 7", 1, x.needs(1, 7));
        due("by 10000", 1, x.needs(1, 10000));
        x.swap(0, 1);
        due("6 more, ahead in the lot", 6, x.needs(1, 1));
        due("it changes nothing", 2, x.told(1));
        due("needs(2, 1)", NONE, x.needs(2, 1));
        due("needs(-1, 1)", NONE, x.needs(-1, 1));
        due("needs(2, 0)", NONE, x.needs(2, 0));
        due("needs(0, 0)", BAD, x.needs(0, 0));
        due("needs(0, 10001)", BAD, x.needs(0, 10001));
        due("needs(0, MIN)", BAD, x.needs(0, MIN));
        due("needs(0, MAX)", BAD, x.needs(0, MAX));
        x.gone(1, true);
        due("gone", LACKS, x.needs(1, 10000));
        KeepCount far = with(2, 1, 34, 2, 4);
        due("31 more are too many", LACKS, far.needs(1, 1));
        far.many(0, 33);
        due("30 are not", 30, far.needs(1, 1));
        needsOver();
    }

    private static void needsOver() {
        check.about("25 needs, OVER");
        KeepCount x = with(2, 1, 611686, 2, 1000000, 2, 1000000, 1, 1000000, 1, 1000000);
        due("ahead by", 1, x.told(7));
        due("OVER ahead of that", LACKS, x.needs(1, 10000));
        due("TROUBLE is as it was", LACKS, x.cause(0, 0));
        x.many(0, 1000);
        due("not OVER", 1, x.needs(1, 1001));
        // 4611686 is what there may be, and 10000 more come to just that.
        KeepCount edge = with(3, 1, 1000000, 1, 1000000, 1, 300843, 2, 1000000, 2, 1000000, 2, 300843);
        due("like ones, the lot", 1, edge.told(7));
        due("as many as there may be", 1, edge.needs(1, 10000));
        due("the next ones would be OVER", LACKS, edge.needs(2, 10000));
        edge.ballot(3, 1);
        due("1 more", LACKS, edge.needs(1, 10000));
        due("elected already, OVER or not", 0, edge.needs(0, 10000));
        due("9999", 1, edge.needs(1, 9999));
        due("TROUBLE is as it was", LACKS, edge.cause(0, 0));
        KeepCount full = with(2);
        for (int b = 0; b < 24; b++) {
            full.ballot(1, 10);
        }
        due("in thought a 25th", 1, full.needs(1, 241));
        due("told(1)", 24, full.told(1));
    }

    private static void see() {
        check.about("26 see");
        KeepCount x = with(2);
        due("see(0, true)", 1, x.see(0, true));
        due("see(0, true)", 2, x.see(0, true));
        due("see(2, true)", NONE, x.see(2, true));
        due("see(-2, true)", NONE, x.see(-2, true));
        due("see(8, true)", NONE, x.see(8, true));
        due("see(1, false)", 3, x.see(1, false));
        due("see(1, false)", 4, x.see(1, false));
        due("see(1, false)", 5, x.see(1, false));
        due("see(1, false)", FULL, x.see(1, false));
        due("NONE ahead of FULL", NONE, x.see(2, false));
        due("count(0)", 5, x.count(0));
        due("see(-1, true)", 0, x.see(-1, true));
        due("count(0)", 0, x.count(0));
        due("see(-1, false)", 0, x.see(-1, false));
        due("see(1, true)", 1, x.see(1, true));
    }

    private static void fits() {
        check.about("27 fits");
        KeepCount x = with(3, 1, 6, 2, 5, 3, 4);
        due("nothing seen", 7, x.fits(0));
        due("nothing seen", 1, x.fits(1));
        x.see(1, true);
        due("2 .. 7 seats", 6, x.fits(0));
        due("the least", 2, x.fits(1));
        x.see(2, false);
        due("2 seats", 1, x.fits(0));
        due("the least", 2, x.fits(1));
        x.see(0, false);
        due("none", 0, x.fits(0));
        due("none", LACKS, x.fits(1));
        due("fits(2)", NONE, x.fits(2));
        due("fits(-1)", NONE, x.fits(-1));
        due("it changes nothing", 1, x.told(3));
    }

    private static void event() {
        check.about("28 event");
        KeepCount x = with(2);
        due("event(0, 0)", 1, x.event(0, 0));
        due("event(1, 1)", 2, x.event(1, 1));
        due("event(2, 7)", 3, x.event(2, 7));
        due("event(3, 1)", 4, x.event(3, 1));
        due("event(4, 0)", NONE, x.event(4, 0));
        due("event(-2, 0)", NONE, x.event(-2, 0));
        due("event(0, 2)", NONE, x.event(0, 2));
        due("event(0, -1)", NONE, x.event(0, -1));
        due("event(1, 2)", NONE, x.event(1, 2));
        due("event(1, -1)", NONE, x.event(1, -1));
        due("event(3, 2)", NONE, x.event(3, 2));
        due("event(3, -1)", NONE, x.event(3, -1));
        due("event(2, 0)", BAD, x.event(2, 0));
        due("event(2, 8)", BAD, x.event(2, 8));
        due("event(2, -1)", BAD, x.event(2, -1));
        for (int e = 5; e <= 8; e++) {
            due("event(2, 1)", e, x.event(2, 1));
        }
        due("the 9th", FULL, x.event(2, 1));
        due("NONE ahead of FULL", NONE, x.event(0, 2));
        due("BAD ahead of FULL", BAD, x.event(2, 0));
        due("count(1)", 8, x.count(1));
        due("event(-1, 99)", 0, x.event(-1, 99));
        due("count(1)", 0, x.count(1));
        due("event(0, 1)", 1, x.event(0, 1));
    }

    private static void after() {
        check.about("29 after");
        KeepCount x = with(3, 12, 6, 2, 3, 3, 5);
        due("no events", 1, x.after());
        x.event(0, 0);
        due("0 is gone", 2, x.after());
        x.event(1, 0);
        due("and isn't", 1, x.after());
        x.event(2, 2);
        due("2 seats", 5, x.after());
        x.event(-1, 0);
        // 3 asks who is gone by then: with 0 gone the first BALLOT has 1 first, too
        x.event(0, 0);
        x.event(3, 1);
        due("ballots of 1 by then", 4, x.after());
        x.event(-1, 0);
        x.event(3, 1);
        x.event(0, 0);
        due("the other way about", 2, x.after());
        x.event(-1, 0);
        x.event(3, 0);
        due("of 0", 4, x.after());
        due("it changes nothing", 1, x.told(7));
        due("MANY", 6, x.ballotOf(0, 0));
        due("nobody", 0, new KeepCount().after());
    }

    private static void feed() {
        check.about("30 feed");
        KeepCount x = new KeepCount();
        due("feed(0)", 1, x.feed(0));
        due("feed(127)", 2, x.feed(127));
        due("feed(128)", BAD, x.feed(128));
        due("feed(-1)", BAD, x.feed(-1));
        due("feed(MAX)", BAD, x.feed(MAX));
        for (int k = 3; k <= 100; k++) {
            due("feed('c')", k, x.feed('c'));
        }
        due("the 101st", FULL, x.feed('c'));
        due("BAD ahead of FULL", BAD, x.feed(128));
        due("count(2)", 100, x.count(2));
        due("read()", -10, x.read());
        due("cause(2, 1)", 0, x.cause(2, 1));
        due("count(2)", 0, x.count(2));
        due("feed('c')", 1, x.feed('c'));
    }

    private static void read() {
        check.about("31 read");
        KeepCount x = new KeepCount();
        due("all sorts", 7, readText(x, "c;c;c;b312*40;s2;l123456789;g1"));
        due("told(0)", 3, x.told(0));
        due("told(1)", 1, x.told(1));
        due("MANY", 40, x.ballotOf(0, 0));
        due("row", 2, x.rowOf(0, 0));
        due("row", 1, x.rowOf(0, 2));
        due("SEATS", 2, x.told(3));
        due("LIMIT", 123456789, x.told(4));
        due("gone", 0, x.of(1, 0));
        due("not gone", 2, x.of(0, 0));
        due("THE TEXT is empty", 0, x.count(2));
        due("no TROUBLE", LACKS, x.cause(0, 0));
        due("LIMIT 0, MANY 0", 2, readText(x, "l0;b1*0"));
        due("LIMIT", 0, x.told(4));
        due("12 clauses", 12, readText(x, "s1;s2;s3;s4;s5;s6;s7;s6;s5;s4;s3;s2"));
        due("SEATS", 2, x.told(3));
        due("leading 0 of MANY, LIMIT", 2, readText(x, "b1*0000012;l000000009"));
        due("MANY", 12, x.ballotOf(2, 0));
        due("LIMIT", 9, x.told(4));
    }

    private static void readRefusals() {
        check.about("31 read, clauses that are refused");
        KeepCount x = new KeepCount();
        due("one behind the other", 2, readText(x, "b1*5;c;b1*5;b2*1;g1;s0;s8;s9"));
        due("told(0)", 1, x.told(0));
        due("told(1)", 1, x.told(1));
        due("no TROUBLE by BAD", LACKS, x.cause(0, 0));
        due("gone again is done", 2, readText(x, "g0;g0"));
        due("MANY above", 0, readText(x, "b1*1000001;b1*9999999;b11*1;b0*1"));
        due("eight candidates", 7, readText(x, "c;c;c;c;c;c;c;c"));
        due("OVER", 5, readText(x, "b1*1000000;b1*1000000;b1*1000000;b1*1000000;b1*1000000;s3"));
        due("told(1)", 5, x.told(1));
        due("SEATS", 3, x.told(3));
        due("TROUBLE", 5, x.cause(0, 0));
        due("COUNT", 5, x.cause(0, 1));
        due("SUM", 6, x.cause(1, 0));
        due("the refused one", 5, x.cause(1, 1));
        due("TROUBLE stays", 1, readText(x, "s1"));
        due("TROUBLE", 5, x.cause(0, 0));
    }

    private static void fault(String text, int place, int... sortsAndNumbers) {
        KeepCount x = new KeepCount();
        due("read of " + text, -10 - place, readText(x, text));
        for (int k = 0; k < sortsAndNumbers.length; k++) {
            due("cause " + k / 2 + " of " + text, sortsAndNumbers[k], x.cause(k / 2, k % 2));
        }
        due("no more causes of " + text, LACKS, x.cause(sortsAndNumbers.length / 2, 0));
        due("nothing is done of " + text, 0, x.told(0));
        due("THE TEXT is empty after " + text, 0, x.count(2));
    }

    private static void faults() {
        check.about("31, 32 faults");
        fault("", 0, 1, 0, 2, 0, 4, -1);
        fault("x", 0, 1, 0, 2, 0, 4, 'x');
        fault(";", 0, 1, 0, 2, 0, 4, ';');
        fault("C", 0, 1, 0, 2, 0, 4, 'C');
        fault(" c", 0, 1, 0, 2, 0, 4, ' ');
        fault("c;", 2, 1, 1, 2, 2, 4, -1);
        fault("c;;", 2, 1, 1, 2, 2, 4, ';');
        fault("c; c", 2, 1, 1, 2, 2, 4, ' ');
        fault("c c", 1, 1, 1, 4, ' ');
        fault("cc", 1, 1, 1, 4, 'c');
        fault("c;c\0", 3, 1, 2, 4, 0);
        fault("c;b", 3, 1, 1, 2, 2, 3, 3);
        fault("c;b*5", 3, 1, 1, 2, 2, 3, 3);
        fault("c;b1", 4, 1, 1, 2, 2, 4, -1);
        fault("c;b1;c", 4, 1, 1, 2, 2, 4, ';');
        fault("c;b1x", 4, 1, 1, 2, 2, 4, 'x');
        fault("b12345678*1x", 11, 1, 1, 4, 'x');
        fault("b123456789*1", 9, 1, 0, 2, 0, 4, '9');
        fault("b1*", 3, 1, 0, 2, 0, 3, 3);
        fault("c;b1*;c", 5, 1, 1, 2, 2, 3, 5);
        fault("b1**", 3, 1, 0, 2, 0, 3, 3);
        fault("b1*12345678", 10, 1, 1, 4, '8');
        fault("b1*5*", 4, 1, 1, 4, '*');
        fault("b1*-5", 3, 1, 0, 2, 0, 3, 3);
        fault("s", 1, 1, 0, 2, 0, 3, 1);
        fault("c;s;c", 3, 1, 1, 2, 2, 3, 3);
        fault("s12", 2, 1, 1, 4, '2');
        fault("l", 1, 1, 0, 2, 0, 3, 1);
        fault("l-1", 1, 1, 0, 2, 0, 3, 1);
        fault("l1234567890", 10, 1, 1, 4, '0');
        fault("g", 1, 1, 0, 2, 0, 3, 1);
        fault("g10", 2, 1, 1, 4, '0');
        fault("c;c;g:", 5, 1, 2, 2, 4, 3, 5);
        fault("c;c;g/", 5, 1, 2, 2, 4, 3, 5);
        fault("c;c;c;c;c;c;c;c;c;c;c;c;", 23, 1, 12, 4, ';');
        fault("c;c;c;c;c;c;c;c;c;c;c;c;c", 23, 1, 12, 4, ';');
        fault("c;c;c;c;c;c;c;c;c;c;c;cx", 23, 1, 12, 4, 'x');
        fault("c;c;c;c;c;c;c;c;c;c;c;", 22, 1, 11, 2, 22, 4, -1);
    }

    private static void cause() {
        check.about("32 cause");
        KeepCount x = new KeepCount();
        due("no TROUBLE", LACKS, x.cause(0, 0));
        due("no TROUBLE", LACKS, x.cause(0, 1));
        due("cause(-1, 0)", NONE, x.cause(-1, 0));
        due("cause(0, 2)", NONE, x.cause(0, 2));
        due("cause(0, -1)", NONE, x.cause(0, -1));
        readText(x, "b");
        due("three", 3, x.cause(2, 0));
        due("cause(3, 0)", LACKS, x.cause(3, 0));
        due("cause(MAX, 1)", LACKS, x.cause(MAX, 1));
        due("cause(MIN, 1)", NONE, x.cause(MIN, 1));
        due("cause(1, 2)", NONE, x.cause(1, 2));
        due("a right text", 1, readText(x, "c"));
        due("TROUBLE stays", 3, x.cause(2, 0));
        readText(x, "cc");
        due("the latest alone", 4, x.cause(1, 0));
        due("the latest alone", LACKS, x.cause(2, 0));
    }

    private static void judge() {
        check.about("33 judge");
        KeepCount x = with(3, 1, 6, 2, 5, 3, 4);
        x.tape(0, 3, 5);
        x.item(0, 1, 6000000);
        x.item(0, 2, 5000000);
        x.item(0, 3, 4000000);
        due("all as told", LACKS, x.judge(0, 0, 1));
        due("otherwise at 0", 0, x.judge(0, 0, 0));
        due("the row ends", 100, x.judge(0, 0, 5));
        due("far behind", 100, x.judge(0, 0, MAX));
        due("below 0", 100, x.judge(0, 0, -1));
        due("far below 0", 100, x.judge(0, 0, MIN));
        x.item(0, 2, 5000001);
        due("otherwise at 1", 1, x.judge(0, 0, 1));
        x.item(0, 2, 5000000);
        x.item(0, 3, 0);
        due("otherwise at 2", 2, x.judge(0, 0, 1));
        x.item(0, 3, 6000000);
        x.item(0, 4, 5000000);
        due("two were looked at", 102, x.judge(0, 0, 3));
        due("the tape holds nothing", 100, x.judge(0, 1, 0));
        due("the tape holds nothing", 100, x.judge(0, 1, -1));
        x.tape(1, 3, 0);
        due("a row of none", 100, x.judge(0, 1, 0));
        for (int sort = 0; sort <= 4; sort++) {
            x.tape(2, sort, 5);
            due("sort " + sort, sort == 3 ? 0 : CAST, x.judge(0, 2, 0));
            due("sort " + sort + ", below 0", sort == 3 ? 100 : CAST, x.judge(0, 2, -1));
        }
        x.tape(2, 0, 5);
        due("judge(9, 2, 0)", NONE, x.judge(9, 2, 0));
        due("judge(-1, 2, 0)", NONE, x.judge(-1, 2, 0));
        due("judge(0, 6, 0)", NONE, x.judge(0, 6, 0));
        due("judge(0, -1, 0)", NONE, x.judge(0, -1, 0));
    }

    private static void imageAndUndo() {
        check.about("34, 35 image, undo");
        KeepCount x = with(2, 1, 5, 2, 7);
        due("undo()", STATE, x.undo());
        x.see(0, true);
        x.event(0, 0);
        x.gone(1, true);
        x.swap(0, 1);
        due("image()", 2, x.image());
        x.gone(1, false);
        x.gone(0, true);
        x.swap(0, 1);
        x.candidate();
        x.ballot(3, 9);
        x.many(0, 99);
        x.set(0, 2);
        x.set(1, 2);
        x.set(2, 2);
        x.see(1, true);
        x.event(2, 2);
        x.feed('c');
        x.tape(0, 0, 3);
        readText(x, "x");
        x.feed('c');
        due("undo()", 2, x.undo());
        int[] told = {2, 2, 1, 1, 1000, 20, 1, 1, 1};
        for (int what = 0; what < told.length; what++) {
            due("told(" + what + ")", told[what], x.told(what));
        }
        due("MANY", 5, x.ballotOf(0, 0));
        due("the lot", 1, x.of(0, 2));
        due("gone", 0, x.of(1, 0));
        due("SEEN", 1, x.count(0));
        due("EVENTS", 1, x.count(1));
        due("THE TEXT stays", 1, x.count(2));
        due("TAPES stay", 0, x.peek(0, 2));
        due("TROUBLE stays", 1, x.cause(0, 0));
        due("after", 0, x.after());
        due("fits", 7, x.fits(0));
        x.drop();
        x.see(-1, true);
        x.event(-1, 0);
        due("undo() once more", 2, x.undo());
        due("SEEN", 1, x.count(0));
        due("EVENTS", 1, x.count(1));
        x.drop();
        due("image()", 1, x.image());
        x.drop();
        due("undo()", 1, x.undo());
        undoOfRows();
    }

    /** Rows that come behind an image, in the places of those that it holds. */
    private static void undoOfRows() {
        KeepCount x = with(3, 12, 5, 23, 9, 31, 4);
        x.see(1, true);
        x.see(2, false);
        x.event(0, 1);
        x.event(2, 2);
        due("image()", 3, x.image());
        due("fits(0)", 1, x.fits(0) > 0 ? 1 : 0);
        int least = x.fits(1);
        int many = x.fits(0);
        int after = x.after();
        x.see(-1, true);
        x.see(0, true);
        x.see(0, false);
        x.event(-1, 0);
        x.event(1, 2);
        x.event(3, 0);
        due("fits(1)", LACKS, x.fits(1));
        x.drop();
        x.drop();
        x.drop();
        x.ballot(3, 7);
        due("undo()", 3, x.undo());
        due("fits(1)", least, x.fits(1));
        due("fits(0)", many, x.fits(0));
        due("after()", after, x.after());
        due("MANY", 5, x.ballotOf(0, 0));
        due("row", 1, x.rowOf(0, 1));
    }

    private static void count() {
        check.about("36 count");
        KeepCount x = with(1);
        x.see(0, true);
        x.see(0, true);
        x.event(2, 1);
        x.feed(1);
        x.feed(1);
        x.feed(1);
        due("count(0)", 2, x.count(0));
        due("count(1)", 1, x.count(1));
        due("count(2)", 3, x.count(2));
        due("count(3)", BAD, x.count(3));
        due("count(-1)", BAD, x.count(-1));
    }

    private static void tape() {
        check.about("37 tape");
        KeepCount x = new KeepCount();
        for (int sort = 0; sort <= 4; sort++) {
            due("tape(5, " + sort + ", 60)", 1, x.tape(5, sort, 60));
            due("all 0", 0, x.peek(5, 59));
            due("its end", NO, x.peek(5, 60));
            x.item(5, 59, 1);
        }
        due("tape(5, 3, 0)", 1, x.tape(5, 3, 0));
        due("tape(5, 3, 60)", 1, x.tape(5, 3, 60));
        due("all 0 again", 0, x.peek(5, 59));
        due("tape(5, 3, 0)", 1, x.tape(5, 3, 0));
        due("a row of none", PLACE, x.item(5, 0, 1));
        due("tape(5, -1, 99)", 1, x.tape(5, -1, 99));
        due("nothing", NOTHING, x.item(5, 0, 1));
        due("tape(5, -1, -99)", 1, x.tape(5, -1, -99));
        due("tape(6, 0, 1)", NONE, x.tape(6, 0, 1));
        due("tape(-1, 0, 1)", NONE, x.tape(-1, 0, 1));
        due("tape(6, 9, -1)", NONE, x.tape(6, 9, -1));
        due("tape(0, 5, 1)", BAD, x.tape(0, 5, 1));
        due("tape(0, -2, 1)", BAD, x.tape(0, -2, 1));
        due("tape(0, 5, -1)", BAD, x.tape(0, 5, -1));
        due("tape(0, 0, 61)", BAD, x.tape(0, 0, 61));
        due("tape(0, 0, MAX)", BAD, x.tape(0, 0, MAX));
        due("tape(0, 0, -1)", SIZE, x.tape(0, 0, -1));
        due("tape(0, 0, MIN)", SIZE, x.tape(0, 0, MIN));
        due("it holds nothing still", NOTHING, x.item(0, 0, 0));
    }

    private static void item() {
        check.about("38 item");
        KeepCount x = new KeepCount();
        long v = 0x1234567890abcdefL;
        long[] due = {(byte) 0xef, (short) 0xcdef, (int) 0x90abcdefL, v, 1};
        for (int sort = 0; sort <= 4; sort++) {
            x.tape(0, sort, 3);
            due("item of sort " + sort, 1, x.item(0, 1, v));
            due("it is", due[sort], x.peek(0, 1));
            due("the one ahead", 0, x.peek(0, 0));
            due("the one behind", 0, x.peek(0, 2));
            x.item(0, 1, 1L << 32);
            due("bit 32 of sort " + sort, sort == 3 ? 1L << 32 : sort == 4 ? 1 : 0, x.peek(0, 1));
            x.item(0, 1, 0);
            due("0", 0, x.peek(0, 1));
            x.item(0, 1, -1);
            due("-1 of sort " + sort, sort == 4 ? 1 : -1, x.peek(0, 1));
        }
        due("item(0, 3, 1)", PLACE, x.item(0, 3, 1));
        due("item(0, -1, 1)", PLACE, x.item(0, -1, 1));
        due("item(0, MAX, 1)", PLACE, x.item(0, MAX, 1));
        due("item(1, 0, 1)", NOTHING, x.item(1, 0, 1));
        due("item(1, -1, 1)", NOTHING, x.item(1, -1, 1));
        due("item(6, 0, 1)", NONE, x.item(6, 0, 1));
        due("item(-1, 0, 1)", NONE, x.item(-1, 0, 1));
    }

    private static void peek() {
        check.about("39 peek");
        KeepCount x = new KeepCount();
        x.tape(2, 2, 2);
        x.item(2, 0, 7);
        x.item(2, 1, -8);
        due("peek(2, 0)", 7, x.peek(2, 0));
        due("peek(2, 1)", -8, x.peek(2, 1));
        due("peek(2, 2)", NO, x.peek(2, 2));
        due("peek(2, -1)", NO, x.peek(2, -1));
        due("peek(1, 0)", NO, x.peek(1, 0));
        due("peek(6, 0)", NO, x.peek(6, 0));
        due("peek(-1, 0)", NO, x.peek(-1, 0));
    }

    private static void items(KeepCount x, int tape, int... due) {
        for (int i = 0; i < due.length; i++) {
            due("peek(" + tape + ", " + i + ")", due[i], x.peek(tape, i));
        }
    }

    private static void shift() {
        check.about("40 shift");
        KeepCount x = new KeepCount();
        x.tape(0, 2, 5);
        x.tape(1, 2, 4);
        for (int i = 0; i < 5; i++) {
            x.item(0, i, i + 1);
        }
        due("shift(0, 1, 1, 2, 2)", 2, x.shift(0, 1, 1, 2, 2));
        items(x, 1, 0, 0, 2, 3);
        items(x, 0, 1, 2, 3, 4, 5);
        due("to itself, forth", 3, x.shift(0, 0, 0, 2, 3));
        items(x, 0, 1, 2, 1, 2, 3);
        due("to itself, back", 4, x.shift(0, 1, 0, 0, 4));
        items(x, 0, 2, 1, 2, 3, 3);
        due("none, at the ends", 0, x.shift(0, 5, 1, 4, 0));
        due("all", 4, x.shift(1, 0, 0, 1, 4));
        items(x, 0, 2, 0, 0, 2, 3);
        int[][] places = {{0, 0, 0, 0, -1}, {0, -1, 1, 0, 1}, {0, 0, 1, -1, 1}, {0, 2, 1, 0, 4}, {1, 0, 0, 2, 4},
            {0, 6, 1, 0, 0}, {0, 0, 1, 5, 0}, {0, 0, 1, 0, 5}, {0, MAX, 1, 0, 1}, {0, 1, 1, 0, MAX},
            {0, 0, 1, MAX, MAX}, {0, MIN, 1, 0, 1}, {0, 0, 1, 0, MIN}};
        for (int[] p : places) {
            due("shift to places that are not there", PLACE, x.shift(p[0], p[1], p[2], p[3], p[4]));
        }
        items(x, 0, 2, 0, 0, 2, 3);
        items(x, 1, 0, 0, 2, 3);
        x.tape(2, 3, 5);
        due("unlike sorts", CAST, x.shift(0, 0, 2, 0, 1));
        due("CAST ahead of PLACE", CAST, x.shift(0, -1, 2, 0, 1));
        due("nothing there", NOTHING, x.shift(0, 0, 3, 0, 1));
        due("nothing there", NOTHING, x.shift(3, 0, 0, 0, 1));
        due("nothing at both", NOTHING, x.shift(3, 0, 4, 0, -1));
        due("shift(6, ..)", NONE, x.shift(6, 0, 0, 0, 1));
        due("shift(.., 6, ..)", NONE, x.shift(0, 0, 6, 0, 1));
        due("shift(-1, ..)", NONE, x.shift(-1, 0, 3, 0, 1));
        due("shift(.., -1, ..)", NONE, x.shift(3, 0, -1, 0, 1));
    }
}
