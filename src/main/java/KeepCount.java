import java.util.Arrays;

/** A transfer count: ballots that rank candidates, counted by weights. The promises stand in DOC.md. */
public final class KeepCount {
    public static final int NONE = -1, BAD = -2, STATE = -3, FULL = -4, OVER = -15;
    public static final long NO = Long.MIN_VALUE;

    /** The answer where nobody, or nothing, is such. */
    private static final int LACKS = -5;
    private static final int NOTHING = -11, CAST = -12, PLACE = -13, SIZE = -14;

    private static final int MOST_CANDIDATES = 8, MOST_BALLOTS = 24, MOST_MANY = 1000000;
    private static final int MOST_SEATS = 7, MOST_LIMIT = 1000000000, MOST_ROUNDS = 20;
    private static final int MOST_SEEN = 5, MOST_EVENTS = 8, MOST_SIGNS = 100, MOST_CLAUSES = 12;
    private static final int TAPES = 6, MOST_ITEMS = 60;
    private static final int MOST_NEEDS = 30, MOST_NEEDS_MANY = 10000;
    /** Each STAGE elects or excludes somebody, so there are never more of them than CANDIDATES. */
    private static final int MOST_STAGES = MOST_CANDIDATES;

    /** A KEEP of all that comes, and what each of a BALLOT's MANY brings. */
    private static final long WHOLE = 1000000L;
    /** Beyond this MANY of all BALLOTS are OVER; up to it no product in the count leaves a long. */
    private static final long MOST_TOGETHER = Long.MAX_VALUE / 2000000000000L;

    private static final int GONE = 0, HOPEFUL = 1, ELECTED = 2, EXCLUDED = 3;
    private static final int IS_GONE = 0, IS_NOT_GONE = 1, SEATS_ARE = 2, LOSES_BALLOTS = 3;
    private static final int SORT_TEXT = 1, SORT_CLAUSE = 2, SORT_NUMBER = 3, SORT_SIGN = 4;
    private static final int SORT_COUNT = 5, SORT_SUM = 6, SORT_HOST = 7;
    private static final int EMPTY = -1, BYTES = 0, SHORTS = 1, INTS = 2, LONGS = 3, BOOLEANS = 4;

    private static final int[] PLACES = {10000000, 1000000, 100000, 10000, 1000, 100, 10, 1};

    private final Poll poll = new Poll();
    private final Poll thought = new Poll();
    private final Poll picture = new Poll();
    private boolean pictured = false;

    private final Tally pollTally = new Tally(poll);
    private final Tally thoughtTally = new Tally(thought);
    /** Whether pollTally is of poll as it is: it is worked out when it is asked for, once. */
    private boolean fresh = false;

    private final Text text = new Text();
    private final Trouble trouble = new Trouble();
    private final Tape[] tapes = new Tape[TAPES];

    public KeepCount() {
        for (int i = 0; i < tapes.length; i++) {
            tapes[i] = new Tape();
        }
    }

    // ---- candidates, ballots

    public int candidate() {
        if (poll.candidates >= MOST_CANDIDATES) {
            return FULL;
        }
        int comes = poll.candidates;
        poll.lot[comes] = comes;
        poll.away[comes] = false;
        poll.candidates = comes + 1;
        fresh = false;
        return comes;
    }

    public int ballot(int row, int many) {
        if (!Row.isRow(row, poll.candidates) || many < 0 || many > MOST_MANY) {
            return BAD;
        }
        if (poll.ballots >= MOST_BALLOTS) {
            return FULL;
        }
        int comes = poll.ballots;
        if (isOver(comes, many)) {
            return OVER;
        }
        poll.row[comes] = Row.filledUp(row);
        poll.heap[comes] = many;
        poll.ballots = comes + 1;
        fresh = false;
        return comes;
    }

    public int many(int ballot, int v) {
        if (!poll.hasBallot(ballot)) {
            return NONE;
        }
        if (v < 0 || v > MOST_MANY) {
            return BAD;
        }
        if (isOver(ballot, v)) {
            return OVER;
        }
        int before = poll.heap[ballot];
        poll.heap[ballot] = v;
        fresh = false;
        return before;
    }

    public int drop() {
        if (poll.ballots <= 0) {
            return STATE;
        }
        poll.ballots--;
        fresh = false;
        return poll.ballots;
    }

    public int gone(int candidate, boolean is) {
        if (!poll.hasCandidate(candidate)) {
            return NONE;
        }
        int before = poll.away[candidate] ? 1 : 0;
        poll.away[candidate] = is;
        fresh = false;
        return before;
    }

    public int set(int what, int v) {
        switch (what) {
            case 0:
                return v < 1 || v > MOST_SEATS ? BAD : putSeats(v);
            case 1:
                return v < 0 || v > MOST_LIMIT ? BAD : putLimit(v);
            case 2:
                return v < 1 || v > MOST_ROUNDS ? BAD : putRounds(v);
            default:
                return NONE;
        }
    }

    private int putSeats(int v) {
        int before = poll.seats;
        poll.seats = v;
        fresh = false;
        return before;
    }

    private int putLimit(int v) {
        int before = poll.limit;
        poll.limit = v;
        fresh = false;
        return before;
    }

    private int putRounds(int v) {
        int before = poll.rounds;
        poll.rounds = v;
        fresh = false;
        return before;
    }

    public int swap(int i, int j) {
        if (!poll.hasCandidate(i) || !poll.hasCandidate(j) || i == j) {
            return NONE;
        }
        int moved = poll.lot[i];
        poll.lot[i] = poll.lot[j];
        poll.lot[j] = moved;
        fresh = false;
        return poll.lot[i];
    }

    /** Whether all would be OVER, were MANY of this BALLOT (one that there is, or the next) so; TROUBLE tells it. */
    private boolean isOver(int ballot, int many) {
        int last = Math.max(poll.ballots - 1, ballot);
        long together = 0;
        for (int b = 0; b <= last && b < MOST_BALLOTS; b++) {
            together += b == ballot ? many : poll.heap[b];
            if (together > MOST_TOGETHER) {
                trouble.begin(SORT_COUNT, poll.ballots);
                trouble.addCause(SORT_SUM, b);
                trouble.addCause(SORT_HOST, 0);
                return true;
            }
        }
        return false;
    }

    // ---- the count

    /** The count of all as it is told now. */
    private Tally tallied() {
        if (!fresh) {
            pollTally.work();
            fresh = true;
        }
        return pollTally;
    }

    public int of(int candidate, int what) {
        if (!poll.hasCandidate(candidate)) {
            return NONE;
        }
        switch (what) {
            case 0:
                return tallied().fate[candidate];
            case 1:
                return tallied().when[candidate];
            case 2:
                return poll.placeInLot(candidate);
            case 3:
                return poll.manyFirst(candidate);
            default:
                return NONE;
        }
    }

    public int ballotOf(int ballot, int what) {
        if (!poll.hasBallot(ballot)) {
            return NONE;
        }
        switch (what) {
            case 0:
                return poll.heap[ballot];
            case 1:
                return Row.length(poll.row[ballot]);
            case 2:
                return poll.firstHere(ballot);
            default:
                return NONE;
        }
    }

    public int rowOf(int ballot, int i) {
        if (!poll.hasBallot(ballot)) {
            return NONE;
        }
        int row = poll.row[ballot];
        return i < 0 || i >= Row.length(row) ? NONE : Row.at(row, i);
    }

    public int told(int what) {
        switch (what) {
            case 0:
                return poll.candidates;
            case 1:
                return poll.ballots;
            case 2:
                return tallied().stages;
            case 3:
                return poll.seats;
            case 4:
                return poll.limit;
            case 5:
                return poll.rounds;
            case 6:
                return tallied().elects;
            case 7:
                return tallied().whoIs(ELECTED);
            case 8:
                return tallied().piles.size;
            default:
                return NONE;
        }
    }

    public int stageOf(int stage, int what) {
        Stage s = tallied().stageAt(stage);
        if (s == null) {
            return NONE;
        }
        switch (what) {
            case 0:
                return s.rounds;
            case 1:
                return s.out;
            case 2:
                return s.in;
            default:
                return NONE;
        }
    }

    public long amount(int stage, int what) {
        Stage s = tallied().stageAt(stage);
        if (s == null) {
            return NO;
        }
        switch (what) {
            case 0:
                return s.quota;
            case 1:
                return s.excess;
            case 2:
                return s.surplus;
            case 3:
                return s.total;
            default:
                return NO;
        }
    }

    public long votes(int stage, int candidate, int what) {
        Stage s = tallied().stageAt(stage);
        if (s == null || !poll.hasCandidate(candidate)) {
            return NO;
        }
        switch (what) {
            case 0:
                return s.got[candidate];
            case 1:
                return s.keep[candidate];
            default:
                return NO;
        }
    }

    public int elected(int i) {
        Tally tally = tallied();
        return i < 0 || i >= tally.elects ? LACKS : tally.order[i];
    }

    public int ranked(int i) {
        return poll.hasCandidate(i) ? tallied().rankAt(i) : NONE;
    }

    public int standing(int stage, int i) {
        Tally tally = tallied();
        Stage s = tally.stageAt(stage);
        if (s == null || !poll.hasCandidate(i)) {
            return NONE;
        }
        return tally.leader(s.got, tally.whoIsHere(), i);
    }

    public int pile(int k, int what) {
        Piles piles = tallied().piles;
        if (k < 0 || k >= piles.size) {
            return NONE;
        }
        switch (what) {
            case 0:
                return Row.asTold(piles.row[k]);
            case 1:
                return piles.heap[k];
            default:
                return NONE;
        }
    }

    public int preferred(int a, int b) {
        if (!poll.hasCandidate(a) || !poll.hasCandidate(b) || a == b) {
            return NONE;
        }
        return poll.manyAhead(a, b);
    }

    public int best() {
        for (int c = 0; c < poll.candidates; c++) {
            if (!poll.away[c] && beatsAll(c)) {
                return c;
            }
        }
        return LACKS;
    }

    private boolean beatsAll(int candidate) {
        for (int c = 0; c < poll.candidates; c++) {
            boolean met = c != candidate && !poll.away[c];
            if (met && poll.manyAhead(candidate, c) <= poll.manyAhead(c, candidate)) {
                return false;
            }
        }
        return true;
    }

    public long share(int stage, int candidate, int part) {
        Stage s = tallied().stageAt(stage);
        if (s == null || !poll.hasCandidate(candidate) || part < 0 || part > 1) {
            return NO;
        }
        long above = s.got[candidate];
        if (above == 0) {
            return part;
        }
        long common = commonDivisor(above, s.total);
        return cut(part == 0 ? above : s.total, common);
    }

    private static long commonDivisor(long a, long b) {
        long divisor = a;
        long rest = b;
        // Euclid's steps on two longs are fewer than a hundred.
        for (int steps = 0; steps < 1000 && rest > 0; steps++) {
            long next = divisor % rest;
            divisor = rest;
            rest = next;
        }
        return divisor;
    }

    private static long cut(long above, long below) {
        return below > 0 ? above / below : 0;
    }

    // ---- what would be

    /** Who would be ELECTED as it is thought (bits). */
    private int electedInThought() {
        thoughtTally.work();
        return thoughtTally.whoIs(ELECTED);
    }

    public int without(int candidate) {
        if (!poll.hasCandidate(candidate)) {
            return NONE;
        }
        thought.copyFrom(poll);
        thought.away[candidate] = true;
        return electedInThought();
    }

    public int raised(int ballot, int candidate) {
        if (!poll.hasBallot(ballot) || !poll.hasCandidate(candidate)) {
            return NONE;
        }
        thought.copyFrom(poll);
        thought.row[ballot] = Row.ledBy(candidate, poll.row[ballot]);
        return electedInThought();
    }

    public int needs(int candidate, int many) {
        if (!poll.hasCandidate(candidate)) {
            return NONE;
        }
        if (many < 1 || many > MOST_NEEDS_MANY) {
            return BAD;
        }
        if (poll.away[candidate]) {
            return LACKS;
        }
        thought.copyFrom(poll);
        int more = poll.ballots;
        thought.row[more] = Row.ledBy(candidate, 0);
        thought.ballots = more + 1;
        long together = poll.together();
        for (int n = 0; n <= MOST_NEEDS && together + n * many <= MOST_TOGETHER; n++) {
            thought.heap[more] = n * many;
            if ((electedInThought() >> candidate & 1) != 0) {
                return n;
            }
        }
        return LACKS;
    }

    public int see(int candidate, boolean is) {
        if (candidate == -1) {
            poll.seen = 0;
            return 0;
        }
        if (!poll.hasCandidate(candidate)) {
            return NONE;
        }
        if (poll.seen >= MOST_SEEN) {
            return FULL;
        }
        poll.seenWho[poll.seen] = candidate;
        poll.seenIs[poll.seen] = is;
        poll.seen++;
        return poll.seen;
    }

    public int fits(int what) {
        if (what < 0 || what > 1) {
            return NONE;
        }
        int fitting = 0;
        int least = LACKS;
        thought.copyFrom(poll);
        for (int seats = MOST_SEATS; seats >= 1; seats--) {
            thought.seats = seats;
            if (poll.isSeenSo(electedInThought())) {
                fitting++;
                least = seats;
            }
        }
        return what == 0 ? fitting : least;
    }

    public int event(int what, int n) {
        if (what == -1) {
            poll.events = 0;
            return 0;
        }
        if (what < IS_GONE || what > LOSES_BALLOTS) {
            return NONE;
        }
        if (what == SEATS_ARE) {
            if (n < 1 || n > MOST_SEATS) {
                return BAD;
            }
        } else if (!poll.hasCandidate(n)) {
            return NONE;
        }
        if (poll.events >= MOST_EVENTS) {
            return FULL;
        }
        poll.eventWhat[poll.events] = what;
        poll.eventNumber[poll.events] = n;
        poll.events++;
        return poll.events;
    }

    public int after() {
        thought.copyFrom(poll);
        for (int e = 0; e < poll.events; e++) {
            thought.suffer(poll.eventWhat[e], poll.eventNumber[e]);
        }
        return electedInThought();
    }

    // ---- texts, troubles

    public int feed(int sign) {
        if (sign < 0 || sign > 127) {
            return BAD;
        }
        if (text.size >= MOST_SIGNS) {
            return FULL;
        }
        text.signs[text.size] = sign;
        text.size++;
        return text.size;
    }

    public int read() {
        int fault = text.faultToldTo(trouble);
        text.size = 0;
        if (fault != LACKS) {
            return -10 - fault;
        }
        int done = 0;
        for (int k = 0; k < text.clauses; k++) {
            if (isDone(text.kind[k], text.first[k], text.second[k])) {
                done++;
            }
        }
        return done;
    }

    /** Does a CLAUSE; whether it was not refused. */
    private boolean isDone(int kind, int first, int second) {
        switch (kind) {
            case 'c':
                return candidate() >= 0;
            case 'b':
                return ballot(first, second) >= 0;
            case 's':
                return set(0, first) >= 0;
            case 'l':
                return set(1, first) >= 0;
            case 'g':
                return gone(first, true) >= 0;
            default:
                return false;
        }
    }

    public int cause(int i, int what) {
        if (i < 0 || what < 0 || what > 1) {
            return NONE;
        }
        if (i >= trouble.size) {
            return LACKS;
        }
        return what == 0 ? trouble.sort[i] : trouble.number[i];
    }

    // ---- judging, the image, tapes

    /** A TAPE, or null if there is no such. */
    private Tape tapeAt(int tape) {
        return tape < 0 || tape >= tapes.length ? null : tapes[tape];
    }

    public int judge(int stage, int tape, int i) {
        Stage s = tallied().stageAt(stage);
        Tape t = tapeAt(tape);
        if (s == null || t == null) {
            return NONE;
        }
        if (t.sort != LONGS && t.sort != EMPTY) {
            return CAST;
        }
        if (i < 0) {
            return 100;
        }
        for (int c = 0; c < poll.candidates; c++) {
            if (i >= t.size - c) {
                return 100 + c;
            }
            if (t.items[i + c] != s.got[c]) {
                return c;
            }
        }
        return LACKS;
    }

    public int image() {
        picture.copyFrom(poll);
        pictured = true;
        return poll.ballots;
    }

    public int undo() {
        if (!pictured) {
            return STATE;
        }
        poll.copyFrom(picture);
        fresh = false;
        return poll.ballots;
    }

    public int count(int what) {
        switch (what) {
            case 0:
                return poll.seen;
            case 1:
                return poll.events;
            case 2:
                return text.size;
            default:
                return BAD;
        }
    }

    public int tape(int tape, int sort, int n) {
        Tape t = tapeAt(tape);
        if (t == null) {
            return NONE;
        }
        if (sort == EMPTY) {
            t.become(EMPTY, 0);
            return 1;
        }
        if (sort < BYTES || sort > BOOLEANS || n > MOST_ITEMS) {
            return BAD;
        }
        if (n < 0) {
            return SIZE;
        }
        t.become(sort, n);
        return 1;
    }

    public int item(int tape, int i, long v) {
        Tape t = tapeAt(tape);
        if (t == null) {
            return NONE;
        }
        if (t.sort == EMPTY) {
            return NOTHING;
        }
        if (i < 0 || i >= t.size) {
            return PLACE;
        }
        t.items[i] = t.fitted(v);
        return 1;
    }

    public long peek(int tape, int i) {
        Tape t = tapeAt(tape);
        if (t == null || i < 0 || i >= t.size) {
            return NO;
        }
        return t.items[i];
    }

    public int shift(int tape, int i, int other, int j, int n) {
        Tape from = tapeAt(tape);
        Tape to = tapeAt(other);
        if (from == null || to == null) {
            return NONE;
        }
        if (from.sort == EMPTY || to.sort == EMPTY) {
            return NOTHING;
        }
        if (from.sort != to.sort) {
            return CAST;
        }
        if (n < 0 || !from.hasRoom(i, n) || !to.hasRoom(j, n)) {
            return PLACE;
        }
        System.arraycopy(from.items, i, to.items, j, n);
        return n;
    }

    /**
     * ROWS as numbers of 8 digits: of each CANDIDATE 1 more, then as many 0 as it lacks. So the order of
     * the numbers is the order of ROWS as in a book.
     */
    private static final class Row {
        private Row() {
        }

        static boolean isRow(int told, int candidates) {
            if (told < 1 || told > 99999999) {
                return false;
            }
            int met = 0;
            int rest = told;
            for (int k = 0; k < PLACES.length && rest > 0; k++) {
                int digit = rest % 10;
                if (digit < 1 || digit > candidates || (met >> digit & 1) != 0) {
                    return false;
                }
                met |= 1 << digit;
                rest /= 10;
            }
            return true;
        }

        static int filledUp(int told) {
            int row = told;
            for (int k = 1; k < PLACES.length; k++) {
                if (row < PLACES[0]) {
                    row *= 10;
                }
            }
            return row;
        }

        static int asTold(int row) {
            int told = row;
            for (int k = 1; k < PLACES.length; k++) {
                if (told % 10 == 0) {
                    told /= 10;
                }
            }
            return told;
        }

        /** The i-th CANDIDATE; below 0 behind the last. */
        static int at(int row, int i) {
            if (i < 0 || i >= PLACES.length || PLACES[i] <= 0) {
                return -1;
            }
            return row / PLACES[i] % 10 - 1;
        }

        static int length(int row) {
            int length = 0;
            for (int i = 0; i < PLACES.length; i++) {
                if (at(row, i) >= 0) {
                    length++;
                }
            }
            return length;
        }

        /** The place of a CANDIDATE; one behind all places, if it doesn't stand there. */
        static int placeOf(int row, int candidate) {
            for (int i = 0; i < PLACES.length; i++) {
                if (at(row, i) == candidate) {
                    return i;
                }
            }
            return PLACES.length;
        }

        /** A ROW, those left out that are away. */
        static int leftOf(int row, boolean[] away) {
            int told = 0;
            for (int i = 0; i < PLACES.length; i++) {
                int c = at(row, i);
                if (c >= 0 && c < away.length && !away[c]) {
                    told = told * 10 + c + 1;
                }
            }
            return filledUp(told);
        }

        /** A ROW, a CANDIDATE put first. */
        static int ledBy(int candidate, int row) {
            int told = candidate + 1;
            for (int i = 0; i < PLACES.length; i++) {
                int c = at(row, i);
                if (c >= 0 && c != candidate) {
                    told = told * 10 + c + 1;
                }
            }
            return filledUp(told);
        }
    }

    /** All that is told, as THE IMAGE holds it. */
    private static final class Poll {
        private int candidates = 0;
        private final int[] lot = new int[MOST_CANDIDATES];
        private final boolean[] away = new boolean[MOST_CANDIDATES];
        private int ballots = 0;
        // One more than may come: in thought NEEDS puts in a 25th.
        private final int[] row = new int[MOST_BALLOTS + 1];
        private final int[] heap = new int[MOST_BALLOTS + 1];
        private int seats = 1;
        private int limit = 1000;
        private int rounds = 20;
        private int seen = 0;
        private final int[] seenWho = new int[MOST_SEEN];
        private final boolean[] seenIs = new boolean[MOST_SEEN];
        private int events = 0;
        private final int[] eventWhat = new int[MOST_EVENTS];
        private final int[] eventNumber = new int[MOST_EVENTS];

        Poll() {
        }

        void copyFrom(Poll other) {
            candidates = other.candidates;
            ballots = other.ballots;
            seats = other.seats;
            limit = other.limit;
            rounds = other.rounds;
            seen = other.seen;
            events = other.events;
            for (int c = 0; c < MOST_CANDIDATES; c++) {
                lot[c] = other.lot[c];
                away[c] = other.away[c];
            }
            for (int b = 0; b < MOST_BALLOTS; b++) {
                row[b] = other.row[b];
                heap[b] = other.heap[b];
            }
            for (int s = 0; s < MOST_SEEN; s++) {
                seenWho[s] = other.seenWho[s];
                seenIs[s] = other.seenIs[s];
            }
            for (int e = 0; e < MOST_EVENTS; e++) {
                eventWhat[e] = other.eventWhat[e];
                eventNumber[e] = other.eventNumber[e];
            }
        }

        boolean hasCandidate(int candidate) {
            return candidate >= 0 && candidate < candidates;
        }

        boolean hasBallot(int ballot) {
            return ballot >= 0 && ballot < ballots;
        }

        long together() {
            long sum = 0;
            for (int b = 0; b < ballots; b++) {
                sum += heap[b];
            }
            return sum;
        }

        int placeInLot(int candidate) {
            for (int i = 0; i < candidates; i++) {
                if (lot[i] == candidate) {
                    return i;
                }
            }
            return NONE;
        }

        /** The first CANDIDATE of a BALLOT that isn't GONE. */
        int firstHere(int ballot) {
            int first = Row.at(Row.leftOf(row[ballot], away), 0);
            return first < 0 ? LACKS : first;
        }

        int manyFirst(int candidate) {
            int sum = 0;
            for (int b = 0; b < ballots; b++) {
                if (firstHere(b) == candidate) {
                    sum += heap[b];
                }
            }
            return sum;
        }

        /** MANY of all BALLOTS that prefer a to b. */
        int manyAhead(int a, int b) {
            int sum = 0;
            for (int k = 0; k < ballots; k++) {
                if (Row.placeOf(row[k], a) < Row.placeOf(row[k], b)) {
                    sum += heap[k];
                }
            }
            return sum;
        }

        /** Whether all SEEN is so, if these (bits) are ELECTED. */
        boolean isSeenSo(int who) {
            for (int s = 0; s < seen; s++) {
                if ((who >> seenWho[s] & 1) != 0 != seenIs[s]) {
                    return false;
                }
            }
            return true;
        }

        /** An EVENT happens. */
        void suffer(int what, int n) {
            if (what == SEATS_ARE) {
                seats = n;
                return;
            }
            if (!hasCandidate(n)) {
                return;
            }
            switch (what) {
                case IS_GONE:
                    away[n] = true;
                    break;
                case IS_NOT_GONE:
                    away[n] = false;
                    break;
                case LOSES_BALLOTS:
                    emptyLedBy(n);
                    break;
                default:
                    break;
            }
        }

        private void emptyLedBy(int candidate) {
            for (int b = 0; b < ballots; b++) {
                if (firstHere(b) == candidate) {
                    heap[b] = 0;
                }
            }
        }
    }

    /** PILES, in the order of their ROWS. */
    private static final class Piles {
        private int size = 0;
        private final int[] row = new int[MOST_BALLOTS + 1];
        private final int[] heap = new int[MOST_BALLOTS + 1];

        Piles() {
        }

        void gather(Poll poll) {
            size = 0;
            for (int b = 0; b < poll.ballots; b++) {
                int left = Row.leftOf(poll.row[b], poll.away);
                if (left != 0 && poll.heap[b] != 0) {
                    put(left, poll.heap[b]);
                }
            }
        }

        private void put(int left, int many) {
            int k = 0;
            while (k < size && row[k] < left) {
                k++;
            }
            if (k < size && row[k] == left) {
                heap[k] += many;
            } else if (size < row.length) {
                for (int later = size; later > k; later--) {
                    row[later] = row[later - 1];
                    heap[later] = heap[later - 1];
                }
                row[k] = left;
                heap[k] = many;
                size++;
            }
        }
    }

    /** What a STAGE was, as its last ROUND had it. */
    private static final class Stage {
        private int rounds = 0;
        private int out = LACKS;
        private int in = 0;
        private long quota = 0;
        private long excess = 0;
        private long surplus = 0;
        private long total = 0;
        private final long[] got = new long[MOST_CANDIDATES];
        private final long[] keep = new long[MOST_CANDIDATES];

        Stage() {
        }
    }

    /** THE COUNT of a poll. */
    private static final class Tally {
        private final Poll poll;
        private final Piles piles = new Piles();
        private final int[] fate = new int[MOST_CANDIDATES];
        private final int[] when = new int[MOST_CANDIDATES];
        private final int[] order = new int[MOST_CANDIDATES];
        private int elects = 0;
        private int hopefuls = 0;
        private int stages = 0;
        private final Stage[] stage = new Stage[MOST_STAGES];
        // Of the ROUND that goes, or went last.
        private final long[] keep = new long[MOST_CANDIDATES];
        private final long[] got = new long[MOST_CANDIDATES];
        private long quota = 0;
        private long excess = 0;
        private long total = 0;

        Tally(Poll poll) {
            this.poll = poll;
            for (int s = 0; s < stage.length; s++) {
                stage[s] = new Stage();
            }
        }

        Stage stageAt(int s) {
            return s < 0 || s >= stages || s >= stage.length ? null : stage[s];
        }

        void work() {
            piles.gather(poll);
            begin();
            boolean excluded = false;
            for (int s = 0; s < MOST_STAGES && hopefuls > 0 && elects < poll.seats; s++) {
                stages = s + 1;
                Stage now = stage[s];
                now.in = 0;
                now.out = LACKS;
                if (hopefuls + elects <= poll.seats) {
                    fill(now);
                } else {
                    goByRounds(now, excluded);
                }
                excluded = now.out != LACKS;
            }
        }

        private void begin() {
            stages = 0;
            elects = 0;
            hopefuls = 0;
            for (int c = 0; c < poll.candidates; c++) {
                boolean here = !poll.away[c];
                fate[c] = here ? HOPEFUL : GONE;
                keep[c] = here ? WHOLE : 0;
                when[c] = LACKS;
                hopefuls += here ? 1 : 0;
            }
        }

        private void fill(Stage now) {
            workOut();
            note(now, 0, 0);
            elect(now, whoIs(HOPEFUL));
        }

        private void goByRounds(Stage now, boolean behindExclusion) {
            for (int round = 1; round <= poll.rounds; round++) {
                if (round > 1 || !behindExclusion) {
                    turnKeeps();
                }
                workOut();
                long surplus = surplus();
                note(now, round, surplus);
                elect(now, whoReachesQuota());
                if (now.in != 0) {
                    return;
                }
                if (surplus <= poll.limit || round == poll.rounds) {
                    exclude(now);
                    return;
                }
            }
        }

        /** KEEPS of ELECTED ones turn by VOTES and QUOTA of the ROUND ahead. */
        private void turnKeeps() {
            for (int c = 0; c < poll.candidates; c++) {
                long had = got[c];
                if (fate[c] == ELECTED && had > 0) {
                    keep[c] = Math.min(WHOLE, (keep[c] * quota + had - 1) / had);
                }
            }
        }

        private void workOut() {
            Arrays.fill(got, 0);
            excess = 0;
            for (int k = 0; k < piles.size; k++) {
                excess += passOn(piles.row[k], piles.heap[k] * WHOLE);
            }
            total = 0;
            for (int c = 0; c < poll.candidates; c++) {
                total += got[c];
            }
            quota = cut(total, poll.seats + 1) + 1;
        }

        /** What a PILE brings goes through its ROW: what is left behind the last. */
        private long passOn(int row, long brought) {
            long left = brought;
            for (int i = 0; i < MOST_CANDIDATES && left > 0; i++) {
                int c = Row.at(row, i);
                if (c < 0 || c >= MOST_CANDIDATES) {
                    return left;
                }
                long part = left * keep[c] / WHOLE;
                got[c] += part;
                left -= part;
            }
            return left;
        }

        private long surplus() {
            long sum = 0;
            for (int c = 0; c < poll.candidates; c++) {
                if (fate[c] == ELECTED) {
                    sum += Math.max(0, got[c] - quota);
                }
            }
            return sum;
        }

        private void note(Stage now, int round, long surplus) {
            now.rounds = round;
            now.quota = quota;
            now.excess = excess;
            now.surplus = surplus;
            now.total = total;
            for (int c = 0; c < MOST_CANDIDATES; c++) {
                now.got[c] = got[c];
                now.keep[c] = keep[c];
            }
        }

        private int whoReachesQuota() {
            int who = 0;
            for (int c = 0; c < poll.candidates; c++) {
                if (fate[c] == HOPEFUL && got[c] >= quota) {
                    who |= 1 << c;
                }
            }
            return who;
        }

        /** Of these (bits) as many are ELECTED as there are SEATS left, the first of most VOTES ahead. */
        private void elect(Stage now, int who) {
            for (int k = poll.seats - elects; k > 0; k--) {
                int c = leader(now.got, who & ~now.in, 0);
                if (c < 0 || elects >= order.length) {
                    return;
                }
                now.in |= 1 << c;
                order[elects] = c;
                elects++;
                hopefuls--;
                fate[c] = ELECTED;
                when[c] = stages - 1;
            }
        }

        private void exclude(Stage now) {
            int who = whoIs(HOPEFUL);
            for (int s = stages - 1; s >= 0; s--) {
                who = whoHasFewest(stage[s].got, who);
            }
            int c = lastInLot(who);
            if (c >= 0) {
                now.out = c;
                hopefuls--;
                fate[c] = EXCLUDED;
                when[c] = stages - 1;
                keep[c] = 0;
            }
        }

        private int whoHasFewest(long[] votes, int who) {
            int fewest = 0;
            long least = Long.MAX_VALUE;
            for (int c = 0; c < poll.candidates; c++) {
                if ((who >> c & 1) != 0) {
                    if (votes[c] < least) {
                        least = votes[c];
                        fewest = 0;
                    }
                    if (votes[c] == least) {
                        fewest |= 1 << c;
                    }
                }
            }
            return fewest;
        }

        private int lastInLot(int who) {
            for (int i = poll.candidates - 1; i >= 0; i--) {
                if ((who >> poll.lot[i] & 1) != 0) {
                    return poll.lot[i];
                }
            }
            return NONE;
        }

        int whoIs(int what) {
            int who = 0;
            for (int c = 0; c < poll.candidates; c++) {
                if (fate[c] == what) {
                    who |= 1 << c;
                }
            }
            return who;
        }

        int whoIsHere() {
            return whoIs(HOPEFUL) | whoIs(ELECTED) | whoIs(EXCLUDED);
        }

        /** The i-th of these (bits) by VOTES, the most first, then by THE LOT; NONE behind them. */
        int leader(long[] votes, int who, int i) {
            int left = who;
            int first = NONE;
            for (int k = 0; k <= i && k < MOST_CANDIDATES; k++) {
                first = NONE;
                for (int p = 0; p < poll.candidates; p++) {
                    int c = poll.lot[p];
                    if ((left >> c & 1) != 0 && (first < 0 || votes[c] > votes[first])) {
                        first = c;
                    }
                }
                if (first >= 0) {
                    left &= ~(1 << first);
                }
            }
            return first;
        }

        /** The i-th of RANKED. */
        int rankAt(int i) {
            if (i >= 0 && i < elects) {
                return order[i];
            }
            int k = i - elects;
            Stage last = stageAt(stages - 1);
            if (last != null && k < hopefuls) {
                return leader(last.got, whoIs(HOPEFUL), k);
            }
            k -= hopefuls;
            for (int s = stages - 1; s >= 0; s--) {
                if (stage[s].out != LACKS) {
                    if (k == 0) {
                        return stage[s].out;
                    }
                    k--;
                }
            }
            for (int c = 0; c < poll.candidates; c++) {
                if (fate[c] == GONE) {
                    if (k == 0) {
                        return c;
                    }
                    k--;
                }
            }
            return NONE;
        }
    }

    /** THE TEXT, and the CLAUSES read from it. */
    private static final class Text {
        private int size = 0;
        private final int[] signs = new int[MOST_SIGNS];
        private int clauses = 0;
        private final int[] kind = new int[MOST_CLAUSES];
        private final int[] first = new int[MOST_CLAUSES];
        private final int[] second = new int[MOST_CLAUSES];
        private int place = 0;
        private boolean lacksNumber = false;

        Text() {
        }

        /** The sign that is due to be read; -1 at the end. */
        private int sign() {
            return place >= 0 && place < size ? signs[place] : -1;
        }

        /** Reads all CLAUSES: the FAULT, which TROUBLE tells then, or LACKS. */
        int faultToldTo(Trouble trouble) {
            clauses = 0;
            place = 0;
            for (int k = 0; k < MOST_CLAUSES; k++) {
                int start = place;
                if (!readsClause(k)) {
                    trouble.begin(SORT_TEXT, clauses);
                    trouble.addCause(SORT_CLAUSE, start);
                    if (lacksNumber) {
                        trouble.addCause(SORT_NUMBER, place);
                    } else {
                        trouble.addCause(SORT_SIGN, sign());
                    }
                    return place;
                }
                clauses++;
                if (place >= size) {
                    return LACKS;
                }
                if (sign() != ';' || clauses == MOST_CLAUSES) {
                    break;
                }
                place++;
            }
            trouble.begin(SORT_TEXT, clauses);
            trouble.addCause(SORT_SIGN, sign());
            return place;
        }

        /** Reads the k-th CLAUSE; if it isn't one, place is where the FAULT is. */
        private boolean readsClause(int k) {
            lacksNumber = false;
            kind[k] = sign();
            switch (sign()) {
                case 'c':
                    place++;
                    return true;
                case 'b':
                    place++;
                    return readsBallot(k);
                case 's':
                case 'g':
                    place++;
                    first[k] = number(1);
                    return !lacksNumber;
                case 'l':
                    place++;
                    first[k] = number(9);
                    return !lacksNumber;
                default:
                    return false;
            }
        }

        private boolean readsBallot(int k) {
            first[k] = number(8);
            if (lacksNumber || sign() != '*') {
                return false;
            }
            place++;
            second[k] = number(7);
            return !lacksNumber;
        }

        private int number(int mostDigits) {
            int value = 0;
            int digits = 0;
            while (digits < mostDigits && sign() >= '0' && sign() <= '9') {
                value = value * 10 + sign() - '0';
                place++;
                digits++;
            }
            lacksNumber = digits == 0;
            return value;
        }
    }

    /** TROUBLE, its CAUSE, the CAUSE of that. */
    private static final class Trouble {
        private int size = 0;
        private final int[] sort = new int[3];
        private final int[] number = new int[3];

        Trouble() {
        }

        void begin(int itsSort, int itsNumber) {
            size = 0;
            addCause(itsSort, itsNumber);
        }

        void addCause(int itsSort, int itsNumber) {
            if (size < sort.length) {
                sort[size] = itsSort;
                number[size] = itsNumber;
                size++;
            }
        }
    }

    /** A TAPE: its items are kept as longs, each as its sort can hold it. */
    private static final class Tape {
        private int sort = EMPTY;
        private int size = 0;
        private final long[] items = new long[MOST_ITEMS];

        Tape() {
        }

        void become(int newSort, int newSize) {
            sort = newSort;
            size = newSize;
            Arrays.fill(items, 0);
        }

        long fitted(long v) {
            switch (sort) {
                case BYTES:
                    return (byte) v;
                case SHORTS:
                    return (short) v;
                case INTS:
                    return (int) v;
                case BOOLEANS:
                    return v != 0 ? 1 : 0;
                default:
                    return v;
            }
        }

        /** Whether n items stand from place i on. */
        boolean hasRoom(int i, int n) {
            return i >= 0 && i <= size && n <= size - i;
        }
    }
}
