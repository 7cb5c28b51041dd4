import java.util.ArrayList;
import java.util.EnumMap;
import java.util.EnumSet;
import java.util.List;
import java.util.Map;
import java.util.Set;
import java.util.function.Consumer;
import java.util.function.ToLongFunction;

/**
 * "What is answered so changes nothing (TROUBLE by OVER alone)", and what is asked changes nothing either: of each
 * call that is refused the answer, then all that can be asked behind it, as if it had not been.
 */
public final class RefusedTest {
    private static final int NONE = -1, BAD = -2, STATE = -3, FULL = -4, LACKS = -5, OVER = -15;
    private static final int NOTHING = -11, CAST = -12, PLACE = -13, SIZE = -14;
    private static final long NO = Long.MIN_VALUE;
    private static final int MIN = Integer.MIN_VALUE, MAX = Integer.MAX_VALUE;

    private static final Check check = new Check();

    /** The object that is asked, and what it answers when nothing was refused. */
    private final Made made;
    private final Map<Trace.Part, List<Long>> due = new EnumMap<>(Trace.Part.class);
    private final int candidates;
    private final int ballots;
    private final int stages;
    private final int piles;

    private RefusedTest(Made made) {
        this.made = made;
        for (Trace.Part part : Trace.Part.values()) {
            due.put(part, Trace.of(part, made, x -> { }));
        }
        KeepCount x = made.make();
        candidates = x.told(0);
        ballots = x.told(1);
        stages = x.told(2);
        piles = x.told(8);
    }

    public static void main(String[] args) {
        asTheyAreMeant();
        for (Made made : Made.values()) {
            check.about(made.toString());
            RefusedTest t = new RefusedTest(made);
            t.wrongCandidates();
            t.wrongPlacesInTheLot();
            t.wrongBallots();
            t.wrongStages();
            t.wrongPlacesInRows();
            t.wrongWhats();
            t.wrongValues();
            t.wrongRows();
            t.wrongTapes();
            t.wrongItems();
        }
        full();
        over();
        nothingThere();
        unlikeSorts();
        faults();
        refusedClauses();
        whatIsAsked();
        check.end(20000);
    }

    /** The call is refused so, and nothing is otherwise behind it, but for these parts. */
    private void refused(String call, long answer, ToLongFunction<KeepCount> f, Set<Trace.Part> changed) {
        check.due(call, answer, f.applyAsLong(made.make()));
        asked(call, f, changed);
    }

    /** Nothing is otherwise behind the call, but for these parts. */
    private void asked(String call, ToLongFunction<KeepCount> f, Set<Trace.Part> changed) {
        Consumer<KeepCount> done = x -> f.applyAsLong(x);
        for (Trace.Part part : Trace.Part.values()) {
            if (!changed.contains(part)) {
                List<Long> got = Trace.of(part, made, done);
                check.due(call + " leaves " + part + " as it was: 1", 1, got.equals(due.get(part)) ? 1 : 0);
            }
        }
    }

    private void refused(String call, long answer, ToLongFunction<KeepCount> f) {
        refused(call, answer, f, EnumSet.noneOf(Trace.Part.class));
    }

    /** Numbers that are none from 0 to below n: right at its sides, far off, and such as look right in their last bits. */
    private static int[] beyond(int n) {
        return new int[] {-1, n, MIN, MAX, n + 1, 256, MIN + 1, -65536};
    }

    /** Numbers that are none from least to most. */
    private static int[] beside(int least, int most) {
        return new int[] {least - 1, most + 1, MIN, MAX, most + 256, MIN + least, -65536 + least};
    }

    private static void asTheyAreMeant() {
        check.about("what the tests begin with");
        int[][] counts = {{0, 0, 0, 0, 0}, {4, 6, 2, 3, 8}, {8, 24, 5, 8, 100}, {3, 5, 0, 0, 0}};
        for (Made made : Made.values()) {
            KeepCount x = made.make();
            int[] due = counts[made.ordinal()];
            check.due(made + " CANDIDATES", due[0], x.told(0));
            check.due(made + " BALLOTS", due[1], x.told(1));
            check.due(made + " SEEN", due[2], x.count(0));
            check.due(made + " EVENTS", due[3], x.count(1));
            check.due(made + " THE TEXT", due[4], x.count(2));
        }
        check.due("TROUBLE of SOME", 1, Made.SOME.make().cause(0, 0));
        check.due("TROUBLE of FULL", 5, Made.FULL.make().cause(0, 0));
        check.due("TROUBLE of EDGE", 3, Made.EDGE.make().cause(2, 0));
        // Three of its 12 CLAUSES are BALLOTS, for which there is no room.
        check.due("THE TEXT of FULL", 9, Made.FULL.make().read());
        for (Made made : new Made[] {Made.FULL, Made.EDGE}) {
            int together = 0;
            for (int b = 0; b < made.make().told(1); b++) {
                together += made.make().ballotOf(b, 0);
            }
            check.due("MANY together of " + made, 4611686, together);
        }
    }

    private void wrongCandidates() {
        for (int c : beyond(candidates)) {
            String of = "(" + c + ", ..)";
            refused("gone" + of, NONE, x -> x.gone(c, true));
            refused("gone" + of, NONE, x -> x.gone(c, false));
            for (int what = -1; what <= 4; what++) {
                int w = what;
                refused("of" + of, NONE, x -> x.of(c, w));
            }
            refused("votes(0, " + c + ", 0)", NO, x -> x.votes(0, c, 0));
            refused("votes(0, " + c + ", 1)", NO, x -> x.votes(0, c, 1));
            refused("share(0, " + c + ", 0)", NO, x -> x.share(0, c, 0));
            refused("share(0, " + c + ", 1)", NO, x -> x.share(0, c, 1));
            refused("preferred" + of, NONE, x -> x.preferred(c, 0));
            refused("preferred(0, " + c + ")", NONE, x -> x.preferred(0, c));
            refused("without" + of, NONE, x -> x.without(c));
            refused("raised(0, " + c + ")", NONE, x -> x.raised(0, c));
            for (int many : new int[] {1, 10000, 0, 10001}) {
                refused("needs" + of, NONE, x -> x.needs(c, many));
            }
            if (c != -1) {
                refused("see" + of, NONE, x -> x.see(c, true));
                refused("see" + of, NONE, x -> x.see(c, false));
            }
            for (int what : new int[] {0, 1, 3}) {
                refused("event(" + what + ", " + c + ")", NONE, x -> x.event(what, c));
            }
        }
    }

    private void wrongPlacesInTheLot() {
        for (int i : beyond(candidates)) {
            refused("swap(" + i + ", 0)", NONE, x -> x.swap(i, 0));
            refused("swap(0, " + i + ")", NONE, x -> x.swap(0, i));
            refused("swap(" + i + ", " + i + ")", NONE, x -> x.swap(i, i));
            refused("ranked(" + i + ")", NONE, x -> x.ranked(i));
            refused("standing(0, " + i + ")", NONE, x -> x.standing(0, i));
            refused("elected(" + i + ")", LACKS, x -> x.elected(i));
        }
        for (int i = 0; i < candidates; i++) {
            int same = i;
            refused("swap(" + i + ", " + i + ")", NONE, x -> x.swap(same, same));
            refused("preferred(" + i + ", " + i + ")", NONE, x -> x.preferred(same, same));
        }
    }

    private void wrongBallots() {
        for (int b : beyond(ballots)) {
            for (int v : new int[] {0, 1000000, -1, 1000001}) {
                refused("many(" + b + ", " + v + ")", NONE, x -> x.many(b, v));
            }
            for (int what = -1; what <= 3; what++) {
                int w = what;
                refused("ballotOf(" + b + ", " + w + ")", NONE, x -> x.ballotOf(b, w));
            }
            refused("rowOf(" + b + ", 0)", NONE, x -> x.rowOf(b, 0));
            refused("raised(" + b + ", 0)", NONE, x -> x.raised(b, 0));
        }
        for (int k : beyond(piles)) {
            refused("pile(" + k + ", 0)", NONE, x -> x.pile(k, 0));
            refused("pile(" + k + ", 1)", NONE, x -> x.pile(k, 1));
        }
    }

    private void wrongStages() {
        for (int s : beyond(stages)) {
            for (int what = -1; what <= 4; what++) {
                int w = what;
                refused("stageOf(" + s + ", " + w + ")", NONE, x -> x.stageOf(s, w));
                refused("amount(" + s + ", " + w + ")", NO, x -> x.amount(s, w));
                refused("votes(" + s + ", 0, " + w + ")", NO, x -> x.votes(s, 0, w));
                refused("share(" + s + ", 0, " + w + ")", NO, x -> x.share(s, 0, w));
                refused("standing(" + s + ", " + w + ")", NONE, x -> x.standing(s, w));
            }
            for (int tape = 0; tape < 6; tape++) {
                int t = tape;
                refused("judge(" + s + ", " + t + ", -1)", NONE, x -> x.judge(s, t, -1));
            }
        }
    }

    private void wrongPlacesInRows() {
        for (int b = 0; b < ballots; b++) {
            int of = b;
            for (int i : beyond(made.make().ballotOf(b, 1))) {
                refused("rowOf(" + b + ", " + i + ")", NONE, x -> x.rowOf(of, i));
            }
        }
        int here = 0;
        for (int c = 0; c < candidates; c++) {
            here += made.make().of(c, 0) == 0 ? 0 : 1;
        }
        for (int s = 0; s < stages; s++) {
            int of = s;
            for (int i : beyond(here)) {
                refused("standing(" + s + ", " + i + ")", NONE, x -> x.standing(of, i));
            }
        }
        for (int i : beyond(made.make().told(6))) {
            refused("elected(" + i + ")", LACKS, x -> x.elected(i));
        }
    }

    private void wrongWhats() {
        for (int w : beyond(2)) {
            refused("fits(" + w + ")", NONE, x -> x.fits(w));
            refused("votes(0, 0, " + w + ")", NO, x -> x.votes(0, 0, w));
            refused("share(0, 0, " + w + ")", NO, x -> x.share(0, 0, w));
            refused("pile(0, " + w + ")", NONE, x -> x.pile(0, w));
            for (int i = 0; i <= 3; i++) {
                int of = i;
                refused("cause(" + i + ", " + w + ")", NONE, x -> x.cause(of, w));
            }
        }
        for (int w : beyond(3)) {
            refused("stageOf(0, " + w + ")", NONE, x -> x.stageOf(0, w));
            refused("ballotOf(0, " + w + ")", NONE, x -> x.ballotOf(0, w));
            refused("count(" + w + ")", BAD, x -> x.count(w));
            for (int v : new int[] {1, 0, -1, MAX}) {
                refused("set(" + w + ", " + v + ")", NONE, x -> x.set(w, v));
            }
        }
        for (int w : beyond(4)) {
            refused("of(0, " + w + ")", NONE, x -> x.of(0, w));
            refused("amount(0, " + w + ")", NO, x -> x.amount(0, w));
            if (w != -1) {
                for (int n : new int[] {0, 1, 8, -1}) {
                    refused("event(" + w + ", " + n + ")", NONE, x -> x.event(w, n));
                }
            }
        }
        for (int w : beyond(9)) {
            refused("told(" + w + ")", NONE, x -> x.told(w));
        }
        for (int i : new int[] {-1, MIN, MIN + 1, -256}) {
            refused("cause(" + i + ", 0)", NONE, x -> x.cause(i, 0));
            refused("cause(" + i + ", 1)", NONE, x -> x.cause(i, 1));
        }
        for (int i : new int[] {made == Made.NOTHING ? 0 : 3, 4, 256, MAX}) {
            refused("cause(" + i + ", 0)", LACKS, x -> x.cause(i, 0));
            refused("cause(" + i + ", 1)", LACKS, x -> x.cause(i, 1));
        }
    }

    private void wrongValues() {
        for (int v : beside(1, 7)) {
            refused("set(0, " + v + ")", BAD, x -> x.set(0, v));
            refused("event(2, " + v + ")", BAD, x -> x.event(2, v));
        }
        for (int v : beside(0, 1000000000)) {
            refused("set(1, " + v + ")", BAD, x -> x.set(1, v));
        }
        for (int v : beside(1, 20)) {
            refused("set(2, " + v + ")", BAD, x -> x.set(2, v));
        }
        for (int v : beside(0, 127)) {
            refused("feed(" + v + ")", BAD, x -> x.feed(v));
        }
        for (int v : beside(0, 1000000)) {
            refused("ballot(1, " + v + ")", BAD, x -> x.ballot(1, v));
            for (int b = 0; b < ballots; b += 3) {
                int of = b;
                refused("many(" + b + ", " + v + ")", BAD, x -> x.many(of, v));
            }
        }
        for (int v : beside(1, 10000)) {
            for (int c = 0; c < candidates; c++) {
                int of = c;
                refused("needs(" + c + ", " + v + ")", BAD, x -> x.needs(of, v));
            }
        }
    }

    /** Digits of no CANDIDATE, digits twice, too many digits, no digits; FULL and OVER come behind them. */
    private void wrongRows() {
        int next = candidates + 1;
        List<Integer> rows = new ArrayList<>(List.of(0, -1, -21, MIN, MAX, MIN + 1, 10, 20, 100, 101, 201, 1020, 11, 22, 121,
            212, 1231, 3213, 1000000, 10000001, 20000000, 12345670, 12345677, 11234567, 81234568, 99999999, 123456781,
            100000001, 123456789, 1234567812, 2147483612));
        rows.add(next);
        rows.add(next * 10 + 1);
        rows.add(10 + next);
        rows.add(210 + next);
        for (int row : rows) {
            for (int many : new int[] {0, 1, 1000000, 1000001}) {
                refused("ballot(" + row + ", " + many + ")", BAD, x -> x.ballot(row, many));
            }
        }
    }

    private void wrongTapes() {
        for (int t : beyond(6)) {
            for (int sort : new int[] {-1, 0, 4, 5}) {
                for (int n : new int[] {0, 60, 61, -1}) {
                    refused("tape(" + t + ", " + sort + ", " + n + ")", NONE, x -> x.tape(t, sort, n));
                }
            }
            for (int i : new int[] {0, -1, 60}) {
                refused("item(" + t + ", " + i + ", 1)", NONE, x -> x.item(t, i, 1));
                refused("peek(" + t + ", " + i + ")", NO, x -> x.peek(t, i));
                refused("judge(0, " + t + ", " + i + ")", NONE, x -> x.judge(0, t, i));
                refused("shift(" + t + ", " + i + ", 0, 0, 0)", NONE, x -> x.shift(t, i, 0, 0, 0));
                refused("shift(0, 0, " + t + ", " + i + ", 0)", NONE, x -> x.shift(0, 0, t, i, 0));
                refused("shift(5, 0, " + t + ", 0, " + i + ")", NONE, x -> x.shift(5, 0, t, 0, i));
                refused("shift(" + t + ", 0, 5, 0, " + i + ")", NONE, x -> x.shift(t, 0, 5, 0, i));
            }
        }
        for (int tape = 0; tape < 6; tape++) {
            int t = tape;
            for (int sort : new int[] {-2, 5, MIN, MAX, 256, 260}) {
                for (int n : new int[] {0, 60, 61, -1}) {
                    refused("tape(" + t + ", " + sort + ", " + n + ")", BAD, x -> x.tape(t, sort, n));
                }
            }
            for (int sort = 0; sort <= 4; sort++) {
                int s = sort;
                for (int n : new int[] {61, 256, MAX}) {
                    refused("tape(" + t + ", " + s + ", " + n + ")", BAD, x -> x.tape(t, s, n));
                }
                for (int n : new int[] {-1, MIN, -256}) {
                    refused("tape(" + t + ", " + s + ", " + n + ")", SIZE, x -> x.tape(t, s, n));
                }
            }
        }
    }

    /** How many items a TAPE has; -1 if it holds nothing. */
    private int size(int tape) {
        KeepCount x = made.make();
        int size = 0;
        while (size < 60 && x.item(tape, size, 0) == 1) {
            size++;
        }
        return x.item(tape, 60, 0) == NOTHING ? -1 : size;
    }

    private void wrongItems() {
        for (int tape = 0; tape < 6; tape++) {
            int t = tape;
            int size = size(t);
            int refusal = size < 0 ? NOTHING : PLACE;
            for (int i : beyond(Math.max(0, size))) {
                refused("item(" + t + ", " + i + ", 1)", refusal, x -> x.item(t, i, 1));
                refused("peek(" + t + ", " + i + ")", NO, x -> x.peek(t, i));
                if (i != size) {
                    refused("shift from there on, of TAPE " + t, refusal, x -> x.shift(t, i, t, 0, 0));
                    refused("shift to there, of TAPE " + t, refusal, x -> x.shift(t, 0, t, i, 0));
                }
                refused("shift of 1 from there on, of TAPE " + t, refusal, x -> x.shift(t, i, t, 0, 1));
                refused("shift of 1 to there, of TAPE " + t, refusal, x -> x.shift(t, 0, t, i, 1));
            }
            for (int n : new int[] {-1, MIN, MAX, size + 1}) {
                refused("shift of " + n + ", of TAPE " + t, size < 0 ? NOTHING : n == 0 ? 0 : PLACE, x -> x.shift(t, 0, t, 0, n));
            }
            if (size > 0) {
                refused("shift of all, from 1 on, of TAPE " + t, PLACE, x -> x.shift(t, 1, t, 0, size));
                refused("shift of all, to 1, of TAPE " + t, PLACE, x -> x.shift(t, 0, t, 1, size));
                refused("shift whose end wraps around, of TAPE " + t, PLACE, x -> x.shift(t, 1, t, 0, MAX));
                refused("shift whose end wraps around, of TAPE " + t, PLACE, x -> x.shift(t, 0, t, 1, MAX));
            }
        }
    }

    private static void full() {
        check.about("FULL");
        RefusedTest t = new RefusedTest(Made.FULL);
        t.refused("candidate()", FULL, x -> x.candidate());
        for (int row : new int[] {1, 8, 12345678, 87654321}) {
            for (int many : new int[] {0, 1, 1000000}) {
                t.refused("ballot(" + row + ", " + many + ")", FULL, x -> x.ballot(row, many));
            }
        }
        for (int sign : new int[] {0, 'c', ';', 127}) {
            t.refused("feed(" + sign + ")", FULL, x -> x.feed(sign));
        }
        for (int c = 0; c < 8; c++) {
            int of = c;
            t.refused("see(" + c + ", true)", FULL, x -> x.see(of, true));
            t.refused("see(" + c + ", false)", FULL, x -> x.see(of, false));
            for (int what : new int[] {0, 1, 3}) {
                t.refused("event(" + what + ", " + c + ")", FULL, x -> x.event(what, of));
            }
        }
        t.refused("event(2, 1)", FULL, x -> x.event(2, 1));
        t.refused("event(2, 7)", FULL, x -> x.event(2, 7));
    }

    private static void over() {
        check.about("OVER");
        Set<Trace.Part> trouble = EnumSet.of(Trace.Part.TROUBLE);
        RefusedTest edge = new RefusedTest(Made.EDGE);
        for (int many : new int[] {1, 2, 1000000}) {
            ToLongFunction<KeepCount> comes = x -> x.ballot(1, many);
            edge.refused("ballot(1, " + many + ")", OVER, comes, trouble);
            troubleOfOver(Made.EDGE, comes, 5, 5);
        }
        for (int v : new int[] {611687, 611688, 1000000}) {
            ToLongFunction<KeepCount> more = x -> x.many(4, v);
            edge.refused("many(4, " + v + ")", OVER, more, trouble);
            troubleOfOver(Made.EDGE, more, 5, 4);
        }
        RefusedTest full = new RefusedTest(Made.FULL);
        for (int b = 2; b <= 6; b++) {
            int of = b;
            ToLongFunction<KeepCount> more = x -> x.many(of, x.ballotOf(of, 0) + 1);
            full.refused("many of " + b + " and 1", OVER, more, trouble);
            troubleOfOver(Made.FULL, more, 24, 23);
        }
        ToLongFunction<KeepCount> last = x -> x.many(22, 1);
        full.refused("many(22, 1)", OVER, last, trouble);
        troubleOfOver(Made.FULL, last, 24, 23);
    }

    /** TROUBLE, whatever it was, is of OVER then. */
    private static void troubleOfOver(Made made, ToLongFunction<KeepCount> f, int ballots, int first) {
        int[] due = {5, ballots, 6, first, 7, 0, LACKS, LACKS};
        KeepCount x = made.make();
        f.applyAsLong(x);
        for (int k = 0; k < due.length; k++) {
            check.due("cause(" + k / 2 + ", " + k % 2 + ") of " + made, due[k], x.cause(k / 2, k % 2));
        }
    }

    private static void nothingThere() {
        check.about("STATE");
        RefusedTest none = new RefusedTest(Made.NOTHING);
        none.refused("drop()", STATE, x -> x.drop());
        none.refused("undo()", STATE, x -> x.undo());
        none.refused("best()", LACKS, x -> x.best());
        none.refused("elected(0)", LACKS, x -> x.elected(0));
        none.refused("cause(0, 0)", LACKS, x -> x.cause(0, 0));
        none.refused("judge(0, 0, 0)", NONE, x -> x.judge(0, 0, 0));
        RefusedTest edge = new RefusedTest(Made.EDGE);
        edge.refused("undo()", STATE, x -> x.undo());
        edge.refused("judge of a TAPE that holds nothing", 100, x -> x.judge(0, 0, 0));
        KeepCount x = Made.candidates(2);
        check.due("drop()", STATE, x.drop());
        x.ballot(1, 5);
        check.due("drop()", 0, x.drop());
        check.due("drop()", STATE, x.drop());
        check.due("told(0)", 2, x.told(0));
        check.due("ballot", 0, x.ballot(2, 5));
    }

    private static void unlikeSorts() {
        check.about("NOTHING, CAST, PLACE");
        RefusedTest t = new RefusedTest(Made.SOME);
        for (int tape = 0; tape < 6; tape++) {
            for (int other = 0; other < 6; other++) {
                int from = tape;
                int to = other;
                int due = tape == 5 || other == 5 ? NOTHING : tape != other ? CAST : PLACE;
                for (int n : new int[] {-1, 61}) {
                    t.refused("shift(" + from + ", 0, " + to + ", 0, " + n + ")", due, x -> x.shift(from, 0, to, 0, n));
                }
                t.refused("shift(" + from + ", -1, " + to + ", 0, 0)", due, x -> x.shift(from, -1, to, 0, 0));
                t.refused("shift(" + from + ", 0, " + to + ", -1, 0)", due, x -> x.shift(from, 0, to, -1, 0));
                if (due != PLACE) {
                    t.refused("shift(" + from + ", 0, " + to + ", 0, 0)", due, x -> x.shift(from, 0, to, 0, 0));
                }
            }
            int of = tape;
            for (int i : new int[] {0, -1, 60}) {
                int due = tape == 5 || tape == 3 && i != 0 ? 100 : tape == 3 ? 0 : CAST;
                t.refused("judge(0, " + of + ", " + i + ")", due, x -> x.judge(0, of, i));
            }
        }
    }

    private static void faults() {
        check.about("a FAULT");
        Set<Trace.Part> changed = EnumSet.of(Trace.Part.ROOM, Trace.Part.TEXT, Trace.Part.TROUBLE);
        RefusedTest none = new RefusedTest(Made.NOTHING);
        none.refused("read of nothing", -10, x -> x.read(), EnumSet.of(Trace.Part.TROUBLE));
        RefusedTest some = new RefusedTest(Made.SOME);
        String[] behind = {"8;", ";", ";x", ";c;", ";s3;g0;b", "x", " "};
        int[] places = {2, 1, 1, 3, 8, 0, 0};
        for (int k = 0; k < behind.length; k++) {
            String text = behind[k];
            int fault = Made.SOME.make().count(2) + places[k];
            some.refused("read of THE TEXT and " + text, -10 - fault, x -> Made.read(x, text), changed);
            KeepCount x = Made.SOME.make();
            Made.read(x, text);
            check.due("THE TEXT is empty then", 0, x.count(2));
        }
    }

    /** CLAUSES that may not be so are not done, and leave TROUBLE and all else; one that is OVER leaves its TROUBLE. */
    private static void refusedClauses() {
        check.about("CLAUSES that are refused");
        for (Made made : new Made[] {Made.NOTHING, Made.EDGE}) {
            RefusedTest t = new RefusedTest(made);
            String next = "" + (t.candidates + 1);
            String[] clauses = {"s0", "s8", "s9", "g8", "g9", "g" + t.candidates, "b0*0", "b" + next + "*0", "b9*0", "b11*0",
                "b1*1000001", "b1*9999999", "b12345678*0", "b1" + next + "*1", "b10*1", "b00000000*0000000"};
            for (String clause : clauses) {
                t.refused("read of " + clause, 0, x -> Made.read(x, clause));
            }
        }
        RefusedTest edge = new RefusedTest(Made.EDGE);
        ToLongFunction<KeepCount> over = x -> Made.read(x, "b1*1");
        edge.refused("read of a BALLOT that is OVER", 0, over, EnumSet.of(Trace.Part.TROUBLE));
        troubleOfOver(Made.EDGE, over, 5, 5);
        KeepCount x = new KeepCount();
        check.due("8 come", 8, Made.read(x, "c;c;c;c;c;c;c;c;c;c;c;c"));
        check.due("told(0)", 8, x.told(0));
        for (int b = 0; b < 24; b++) {
            x.ballot(1, 0);
        }
        check.due("the 25th", 0, Made.read(x, "b1*0"));
        check.due("the 25th, that would be OVER, too", 0, Made.read(x, "b1*1000000"));
        check.due("told(1)", 24, x.told(1));
        check.due("no TROUBLE", LACKS, x.cause(0, 0));
    }

    /** "All that follows is asked, and changes nothing"; NEEDS and RAISED leave TROUBLE as it is. */
    private static void whatIsAsked() {
        for (Made made : Made.values()) {
            check.about(made + ", what is asked");
            RefusedTest t = new RefusedTest(made);
            for (int n = 0; n <= 8; n++) {
                int k = n;
                t.asked("told", x -> x.told(k));
                t.asked("of", x -> x.of(k, k % 4));
                t.asked("ballotOf, rowOf", x -> x.ballotOf(k, k % 3) + x.rowOf(k, 0));
                t.asked("stageOf", x -> x.stageOf(k, k % 3));
                t.asked("amount, votes", x -> x.amount(k, k % 4) + x.votes(0, k, k % 2));
                t.asked("elected, ranked", x -> x.elected(k) + x.ranked(k));
                t.asked("standing, share", x -> x.standing(0, k) + x.share(0, k, 1));
                t.asked("pile, preferred", x -> x.pile(k, 0) + x.preferred(k, 0));
                t.asked("best", x -> x.best());
                t.asked("without", x -> x.without(k));
                t.asked("raised", x -> x.raised(k, 0));
                t.asked("raised", x -> x.raised(0, k));
                t.asked("needs", x -> x.needs(k, 1));
                t.asked("needs", x -> x.needs(k, 10000));
                t.asked("fits", x -> x.fits(k % 2));
                t.asked("after", x -> x.after());
                t.asked("cause", x -> x.cause(k, k % 2));
                t.asked("judge", x -> x.judge(k % 2, k % 6, 0));
                t.asked("count, peek", x -> x.count(k % 3) + x.peek(k % 6, 0));
            }
        }
    }

    private void asked(String call, ToLongFunction<KeepCount> f) {
        asked(call, f, EnumSet.noneOf(Trace.Part.class));
    }
}
