import java.util.Random;

/** Runs of calls by a fixed seed, each answer compared with Model's. */
public final class ModelTest {
    private static final int RUNS = 1000;
    /** The last of these may be many (a text fed, say); no object is asked more than 512 times. */
    private static final int CALLS = 370;
    /** In a run that asks for the whole count at its end. */
    private static final int FEW_CALLS = 60;
    private static final int MOST_CALLS = 512;

    /**
     * Of each how many CANDIDATES, SEATS, LIMIT, then ROWS and MANY: found by long search, as chance hardly
     * comes to QUOTA exactly (for more than there are SEATS left, too), an ELECTED one without VOTES or with 1, or
     * one whose KEEP would go beyond 1000000. The last one has 24 PILES.
     */
    private static final int[][] RARE = {
        {8, 7, 0, 123, 1, 124, 1, 125, 1, 126, 1, 127, 1, 128, 1, 3, 1, 4, 1, 5, 1, 6, 1, 7, 1, 8, 1, 1, 1},
        {7, 6, 0, 214, 1, 215, 1, 216, 1, 217, 1, 432, 1, 532, 1, 632, 1, 732, 1, 234, 1, 235, 1, 236, 1, 237, 1},
        {7, 6, 0, 3425, 1, 3426, 1, 3427, 1, 1425, 1, 1426, 1, 1427, 1, 24, 1},
        {7, 6, 0, 752, 1, 72, 1},
        {8, 6, 0, 328, 1, 32, 1},
        {7, 6, 0, 142, 1, 12, 1},
        {8, 6, 16, 486, 1, 41, 2, 4, 1, 81324, 1, 67312, 1, 842, 2, 3, 1, 5641, 1},
        {8, 6, 0, 2, 2, 8542, 2, 4583, 1, 375, 2, 54, 2, 821, 1, 324, 1, 21, 1},
        {5, 4, 0, 314, 1, 23, 2, 125, 1},
        {6, 4, 17, 421, 1, 4316, 2, 54, 1, 265, 1, 4, 1, 614, 1, 253, 2},
        {8, 7, 16, 138, 1, 238, 1, 436, 1},
        {7, 6, 0, 3425, 1, 42, 1, 3427, 2, 1425, 1, 1426, 2, 24, 1},
        {7, 6, 0, 214, 1, 215, 1, 217, 2, 432, 1, 532, 1, 632, 1, 732, 1, 235, 1, 236, 2, 237, 1},
        {8, 5, 0, 317, 2, 37, 1},
        {4, 3, 17, 34, 1, 34, 1},
        {8, 1, 1000, 12, 2, 13, 2, 14, 2, 15, 2, 16, 2, 17, 2, 18, 2, 21, 2, 23, 2, 24, 2, 25, 2, 26, 2, 27, 2, 28, 2,
            31, 2, 32, 2, 34, 2, 35, 2, 36, 2, 37, 2, 38, 2, 41, 2, 42, 2, 43, 2}};

    private final Check check;
    private final Random random;
    private final KeepCount x = new KeepCount();
    private final Model m = new Model();
    /** How large MANY are in this run: small ones make ties, large ones OVER. */
    private final int size;
    private int calls = 0;

    private ModelTest(Check check, long seed) {
        this.check = check;
        random = new Random(seed);
        int[] sizes = {3, 12, 100, 5000, 400000, 1000000};
        size = sizes[random.nextInt(sizes.length)];
    }

    public static void main(String[] args) {
        Check check = new Check();
        int runs = args.length > 0 ? Integer.parseInt(args[0]) : RUNS;
        long seed = args.length > 1 ? Long.parseLong(args[1]) : 1;
        for (int run = 0; run < runs && check.wrong() == 0; run++) {
            check.about("seed " + (seed + run));
            new ModelTest(check, seed + run).run();
        }
        for (int k = 0; k < RARE.length && check.wrong() == 0; k++) {
            check.about("rare " + k);
            new ModelTest(check, k).compareRare(RARE[k]);
        }
        check.end(runs * 300);
    }

    private void compareRare(int[] rare) {
        for (int c = 0; c < rare[0]; c++) {
            due("candidate", m.candidate(), x.candidate());
        }
        due("set(0)", m.set(0, rare[1]), x.set(0, rare[1]));
        due("set(1)", m.set(1, rare[2]), x.set(1, rare[2]));
        for (int k = 3; k + 1 < rare.length; k += 2) {
            due("ballot", m.ballot(rare[k], rare[k + 1]), x.ballot(rare[k], rare[k + 1]));
        }
        askWholeCount();
        for (int c = 0; c < rare[0]; c++) {
            due("without(" + c + ")", m.without(c), x.without(c));
            due("raised(0, " + c + ")", m.raised(0, c), x.raised(0, c));
            due("needs(" + c + ", 1)", m.needs(c, 1), x.needs(c, 1));
        }
    }

    private void run() {
        setUp();
        boolean whole = random.nextInt(2) == 0;
        while (calls < (whole ? FEW_CALLS : CALLS) && check.wrong() == 0) {
            if (random.nextInt(whole ? 2 : 4) == 0) {
                change();
            } else {
                ask();
            }
        }
        if (whole) {
            askWholeCount();
        }
        if (calls > MOST_CALLS) {
            throw new IllegalStateException("a run of " + calls + " calls");
        }
    }

    private void due(String call, long want, long got) {
        calls++;
        check.due(call, want, got);
    }

    private int below(int n) {
        return random.nextInt(n);
    }

    /** A number from 0 on, below n most times, now and then beyond. */
    private int about(int n) {
        switch (below(30)) {
            case 0:
                return -1;
            case 1:
                return n;
            case 2:
                int[] far = {-2, n + 1, 8, 9, 24, 100, Integer.MAX_VALUE, Integer.MIN_VALUE};
                return far[below(far.length)];
            default:
                return n <= 0 ? 0 : below(n);
        }
    }

    private int someCandidate() {
        return about(m.told.gone.size());
    }

    private int someBallot() {
        return about(m.told.ballots.size());
    }

    private int someStage() {
        return about(m.told(2));
    }

    private int someMany() {
        switch (below(20)) {
            case 0:
                return 0;
            case 1:
                int[] edges = {-1, 1000000, 1000001, Integer.MIN_VALUE, Integer.MAX_VALUE};
                return edges[below(edges.length)];
            default:
                return below(size + 1);
        }
    }

    private int someRow() {
        if (below(25) == 0) {
            int[] odd = {0, -1, 11, 10, 102, 9, 123456789, Integer.MAX_VALUE, Integer.MIN_VALUE, 12345678};
            return odd[below(odd.length)];
        }
        int n = m.told.gone.size();
        int row = 0;
        int met = 0;
        for (int k = below(n + 1); k >= 0; k--) {
            int c = n == 0 ? 0 : below(n);
            if ((met >> c & 1) == 0) {
                met |= 1 << c;
                row = row * 10 + c + 1;
            }
        }
        return row;
    }

    private void setUp() {
        int candidates = 1 + below(8);
        for (int k = 0; k < candidates; k++) {
            due("candidate", m.candidate(), x.candidate());
        }
        for (int k = below(25); k > 0; k--) {
            addBallot();
        }
        int seats = 1 + below(4);
        due("set(0, " + seats + ")", m.set(0, seats), x.set(0, seats));
        if (below(3) == 0) {
            swapSome();
        }
    }

    private void addBallot() {
        int row = someRow();
        int many = someMany();
        due("ballot(" + row + ", " + many + ")", m.ballot(row, many), x.ballot(row, many));
    }

    private void swapSome() {
        int i = someCandidate();
        int j = someCandidate();
        due("swap(" + i + ", " + j + ")", m.swap(i, j), x.swap(i, j));
    }

    private void setSome() {
        int what = about(3);
        int[] limits = {0, 1, 20, 1000, 1000000, 1000000000, -1, 1000000001};
        int v = what == 0 ? about(8) : what == 1 ? limits[below(limits.length)] : about(21);
        due("set(" + what + ", " + v + ")", m.set(what, v), x.set(what, v));
    }

    private void change() {
        int a = someCandidate();
        int b = someBallot();
        int v = someMany();
        boolean is = below(3) == 0;
        int n = 0;
        int what = 0;
        switch (below(14)) {
            case 0:
                if (below(4) == 0) {
                    due("candidate", m.candidate(), x.candidate());
                }
                break;
            case 1:
            case 2:
            case 3:
                addBallot();
                break;
            case 4:
            case 5:
                due("many(" + b + ", " + v + ")", m.many(b, v), x.many(b, v));
                break;
            case 6:
                due("drop", m.drop(), x.drop());
                break;
            case 7:
                due("gone(" + a + ", " + is + ")", m.gone(a, is), x.gone(a, is));
                break;
            case 8:
                setSome();
                break;
            case 9:
                swapSome();
                break;
            case 10:
                if (below(3) == 0) {
                    due("see(-1)", m.see(-1, is), x.see(-1, is));
                }
                due("see(" + a + ", " + is + ")", m.see(a, is), x.see(a, is));
                break;
            case 11:
                if (below(8) == 0) {
                    due("event(-1)", m.event(-1, a), x.event(-1, a));
                }
                what = about(4);
                n = what == 2 ? about(8) : someCandidate();
                due("event(" + what + ", " + n + ")", m.event(what, n), x.event(what, n));
                break;
            case 12:
                if (below(3) == 0) {
                    due("image", m.image(), x.image());
                } else if (below(2) == 0) {
                    due("undo", m.undo(), x.undo());
                }
                break;
            default:
                readSome();
        }
    }

    private void readSome() {
        StringBuilder text = new StringBuilder();
        for (int k = below(below(10) == 0 ? 15 : 5); k >= 0; k--) {
            text.append(someClause()).append(k > 0 ? ";" : "");
        }
        for (int k = below(4) - 1; k > 0; k--) {
            mutate(text);
        }
        text.setLength(Math.min(text.length(), 102));
        for (int k = 0; k < text.length(); k++) {
            int sign = text.charAt(k);
            due("feed(" + sign + ")", m.feed(sign), x.feed(sign));
        }
        due("count(2)", m.count(2), x.count(2));
        due("read of " + text, m.read(), x.read());
        for (int i = 0; i < 4; i++) {
            due("cause(" + i + ", 0) of " + text, m.cause(i, 0), x.cause(i, 0));
            due("cause(" + i + ", 1) of " + text, m.cause(i, 1), x.cause(i, 1));
        }
    }

    private String someClause() {
        switch (below(6)) {
            case 0:
                return "c";
            case 1:
                return "s" + below(10);
            case 2:
                return "l" + below(below(2) == 0 ? 2000 : 1000000000);
            case 3:
                return "g" + below(below(2) == 0 ? 10 : 3);
            default:
                return "b" + Math.abs((long) someRow()) % 100000000 + "*" + Math.abs((long) someMany()) % 10000000;
        }
    }

    private void mutate(StringBuilder text) {
        String signs = "cbslg*;0123456789 x\0\177";
        char sign = signs.charAt(below(signs.length()));
        int at = below(text.length() + 1);
        switch (below(4)) {
            case 0:
                text.insert(at, sign);
                break;
            case 1:
                text.setLength(at);
                break;
            case 2:
                text.replace(at, Math.min(at + 1, text.length()), "");
                break;
            default:
                text.replace(at, Math.min(at + 1, text.length()), String.valueOf(sign));
        }
    }

    private void ask() {
        int a = someCandidate();
        int s = someStage();
        int b = someBallot();
        int i = about(8);
        int what = about(4);
        switch (below(25)) {
            case 0:
                due("of(" + a + ", " + what + ")", m.of(a, what), x.of(a, what));
                break;
            case 1:
                due("ballotOf(" + b + ", " + what + ")", m.ballotOf(b, what), x.ballotOf(b, what));
                break;
            case 2:
                due("rowOf(" + b + ", " + i + ")", m.rowOf(b, i), x.rowOf(b, i));
                break;
            case 3:
                what = about(9);
                due("told(" + what + ")", m.told(what), x.told(what));
                break;
            case 4:
                due("stageOf(" + s + ", " + what + ")", m.stageOf(s, what), x.stageOf(s, what));
                break;
            case 5:
                due("amount(" + s + ", " + what + ")", m.amount(s, what), x.amount(s, what));
                break;
            case 6:
                what = about(2);
                due("votes(" + s + ", " + a + ", " + what + ")", m.votes(s, a, what), x.votes(s, a, what));
                break;
            case 7:
                due("elected(" + i + ")", m.elected(i), x.elected(i));
                break;
            case 8:
                due("ranked(" + i + ")", m.ranked(i), x.ranked(i));
                break;
            case 9:
                due("standing(" + s + ", " + i + ")", m.standing(s, i), x.standing(s, i));
                break;
            case 10:
                i = about(m.told(8));
                what = about(2);
                due("pile(" + i + ", " + what + ")", m.pile(i, what), x.pile(i, what));
                break;
            case 11:
                int other = someCandidate();
                due("preferred(" + a + ", " + other + ")", m.preferred(a, other), x.preferred(a, other));
                break;
            case 12:
                due("best", m.best(), x.best());
                break;
            case 13:
                what = about(2);
                due("share(" + s + ", " + a + ", " + what + ")", m.share(s, a, what), x.share(s, a, what));
                break;
            default:
                askMore(a, b);
        }
    }

    private void askMore(int a, int b) {
        int what = about(2);
        switch (below(11)) {
            case 0:
                due("without(" + a + ")", m.without(a), x.without(a));
                break;
            case 1:
                due("raised(" + b + ", " + a + ")", m.raised(b, a), x.raised(b, a));
                break;
            case 2:
                int n = below(15) == 0 ? about(10001) : 1 + below(Math.min(10000, 1 + size / 4));
                if (!m.isCandidate(a) || !m.told.gone.get(a) || n >= 1 && n <= 10000) {
                    due("needs(" + a + ", " + n + ")", m.needs(a, n), x.needs(a, n));
                }
                break;
            case 3:
                due("fits(" + what + ")", m.fits(what), x.fits(what));
                break;
            case 4:
                due("after", m.after(), x.after());
                break;
            case 5:
                what = about(3);
                due("count(" + what + ")", m.count(what), x.count(what));
                break;
            case 6:
                int i = about(4);
                due("cause(" + i + ", " + what + ")", m.cause(i, what), x.cause(i, what));
                break;
            case 7:
                judgeSome();
                break;
            default:
                useTapes();
        }
    }

    private void judgeSome() {
        int tape = about(6);
        int stage = someStage();
        if (below(4) == 0) {
            int place = about(3);
            due("judge(" + stage + ", " + tape + ", " + place + ")", m.judge(stage, tape, place), x.judge(stage, tape, place));
            return;
        }
        int place = below(3);
        int n = place + m.told.gone.size() - (below(4) == 0 ? 1 : 0);
        due("tape(" + tape + ", 3, " + n + ")", m.tape(tape, 3, n), x.tape(tape, 3, n));
        int odd = below(12);
        for (int c = 0; c < m.told.gone.size(); c++) {
            long v = m.votes(stage, c, 0) + (c == odd ? 1 : 0);
            due("item(" + tape + ", " + (place + c) + ", " + v + ")", m.item(tape, place + c, v), x.item(tape, place + c, v));
        }
        due("judge(" + stage + ", " + tape + ", " + place + ")", m.judge(stage, tape, place), x.judge(stage, tape, place));
    }

    private void useTapes() {
        int tape = about(6);
        int i = about(8);
        switch (below(6)) {
            case 0:
                int sort = about(5);
                int n = below(5) == 0 ? about(61) : about(10);
                due("tape(" + tape + ", " + sort + ", " + n + ")", m.tape(tape, sort, n), x.tape(tape, sort, n));
                break;
            case 1:
            case 2:
                long v = below(3) == 0 ? below(3) : random.nextLong();
                due("item(" + tape + ", " + i + ", " + v + ")", m.item(tape, i, v), x.item(tape, i, v));
                break;
            case 3:
                due("peek(" + tape + ", " + i + ")", m.peek(tape, i), x.peek(tape, i));
                break;
            default:
                int other = below(2) == 0 ? tape : about(6);
                int j = about(5);
                int many = about(6);
                due("shift(" + tape + ", " + i + ", " + other + ", " + j + ", " + many + ")",
                    m.shift(tape, i, other, j, many), x.shift(tape, i, other, j, many));
                for (int k = 0; k < 10; k++) {
                    due("peek(" + other + ", " + k + ")", m.peek(other, k), x.peek(other, k));
                }
        }
    }

    /** All that is told of the count. */
    private void askWholeCount() {
        for (int what = 0; what <= 8; what++) {
            due("told(" + what + ")", m.told(what), x.told(what));
        }
        for (int s = 0; s <= 8; s++) {
            for (int what = 0; what <= 3; what++) {
                due("stageOf(" + s + ", " + what + ")", m.stageOf(s, what), x.stageOf(s, what));
                due("amount(" + s + ", " + what + ")", m.amount(s, what), x.amount(s, what));
            }
            for (int c = 0; c < 8; c++) {
                due("votes(" + s + ", " + c + ", 0)", m.votes(s, c, 0), x.votes(s, c, 0));
                due("votes(" + s + ", " + c + ", 1)", m.votes(s, c, 1), x.votes(s, c, 1));
                due("standing(" + s + ", " + c + ")", m.standing(s, c), x.standing(s, c));
            }
        }
        for (int i = 0; i <= 8; i++) {
            due("elected(" + i + ")", m.elected(i), x.elected(i));
            due("ranked(" + i + ")", m.ranked(i), x.ranked(i));
            due("of(" + i + ", 0)", m.of(i, 0), x.of(i, 0));
            due("of(" + i + ", 1)", m.of(i, 1), x.of(i, 1));
        }
    }
}
