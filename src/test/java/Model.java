import java.math.BigInteger;
import java.util.ArrayList;
import java.util.Arrays;
import java.util.Comparator;
import java.util.HashMap;
import java.util.List;
import java.util.Map;
import java.util.TreeMap;
import java.util.regex.Matcher;
import java.util.regex.Pattern;

/**
 * The document told a second time, with the Java library and without care for speed, to compare with.
 * It shares no code with KeepCount, and works by other means wherever there are any.
 */
final class Model {
    static final int NONE = -1, BAD = -2, STATE = -3, FULL = -4, LACKS = -5, OVER = -15;
    static final int NOTHING = -11, CAST = -12, PLACE = -13, SIZE = -14;
    static final long NO = Long.MIN_VALUE;
    static final BigInteger MILLION = BigInteger.valueOf(1000000);
    static final BigInteger WIDE = BigInteger.valueOf(2000000000000L);
    static final BigInteger MOST = BigInteger.valueOf(Long.MAX_VALUE);

    static final class Ballot {
        final List<Integer> row;
        final int many;

        Ballot(List<Integer> row, int many) {
            this.row = row;
            this.many = many;
        }
    }

    /** What THE IMAGE holds. */
    static final class Told {
        List<Integer> lot = new ArrayList<>();
        List<Boolean> gone = new ArrayList<>();
        List<Ballot> ballots = new ArrayList<>();
        int seats = 1, limit = 1000, rounds = 20;
        List<Object[]> seen = new ArrayList<>();
        List<int[]> events = new ArrayList<>();

        Told same() {
            Told t = new Told();
            t.lot.addAll(lot);
            t.gone.addAll(gone);
            t.ballots.addAll(ballots);
            t.seats = seats;
            t.limit = limit;
            t.rounds = rounds;
            t.seen.addAll(seen);
            t.events.addAll(events);
            return t;
        }

        List<Integer> here(List<Integer> row) {
            List<Integer> left = new ArrayList<>(row);
            left.removeIf(gone::get);
            return left;
        }

        TreeMap<List<Integer>, Integer> piles() {
            TreeMap<List<Integer>, Integer> piles = new TreeMap<>(Model::asInABook);
            for (Ballot b : ballots) {
                if (b.many > 0 && !here(b.row).isEmpty()) {
                    piles.merge(here(b.row), b.many, Integer::sum);
                }
            }
            return piles;
        }
    }

    static int asInABook(List<Integer> a, List<Integer> b) {
        for (int i = 0; i < a.size() && i < b.size(); i++) {
            if (!a.get(i).equals(b.get(i))) {
                return a.get(i) - b.get(i);
            }
        }
        return a.size() - b.size();
    }

    static final class Step {
        int rounds;
        int excluded = LACKS;
        List<Integer> elected = new ArrayList<>();
        BigInteger quota, excess, surplus = BigInteger.ZERO, all;
        BigInteger[] votes, keeps;
    }

    /** THE COUNT. */
    static final class Counted {
        final Told told;
        final List<Step> steps = new ArrayList<>();
        final List<Integer> elected = new ArrayList<>();
        final List<Integer> hopeful = new ArrayList<>();
        final Map<Integer, Integer> excludedIn = new HashMap<>();
        BigInteger[] keeps;

        Counted(Told told) {
            this.told = told;
            int n = told.gone.size();
            keeps = new BigInteger[n];
            for (int c = 0; c < n; c++) {
                keeps[c] = told.gone.get(c) ? BigInteger.ZERO : MILLION;
                if (!told.gone.get(c)) {
                    hopeful.add(c);
                }
            }
            while (elected.size() != told.seats && !hopeful.isEmpty()) {
                step();
            }
        }

        Comparator<Integer> byVotes(Step s) {
            return Comparator.comparing((Integer c) -> s.votes[c]).reversed().thenComparing(c -> told.lot.indexOf(c));
        }

        void weigh(Step s) {
            s.votes = new BigInteger[keeps.length];
            Arrays.fill(s.votes, BigInteger.ZERO);
            s.excess = BigInteger.ZERO;
            for (Map.Entry<List<Integer>, Integer> pile : told.piles().entrySet()) {
                BigInteger left = MILLION.multiply(BigInteger.valueOf(pile.getValue()));
                for (int c : pile.getKey()) {
                    BigInteger part = left.multiply(keeps[c]).divide(MILLION);
                    s.votes[c] = s.votes[c].add(part);
                    left = left.subtract(part);
                }
                s.excess = s.excess.add(left);
            }
            s.all = Arrays.stream(s.votes).reduce(BigInteger.ZERO, BigInteger::add);
            s.quota = s.all.divide(BigInteger.valueOf(told.seats + 1)).add(BigInteger.ONE);
            s.keeps = keeps.clone();
        }

        void elect(Step s, List<Integer> who) {
            who.sort(byVotes(s));
            for (int c : who.subList(0, Math.min(who.size(), told.seats - elected.size()))) {
                s.elected.add(c);
            }
            elected.addAll(s.elected);
            hopeful.removeAll(s.elected);
        }

        void step() {
            Step before = steps.isEmpty() ? null : steps.get(steps.size() - 1);
            Step s = new Step();
            steps.add(s);
            if (hopeful.size() + elected.size() <= told.seats) {
                weigh(s);
                elect(s, new ArrayList<>(hopeful));
                return;
            }
            while (true) {
                s.rounds++;
                boolean asTheyAre = s.rounds == 1 && before != null && before.excluded != LACKS;
                if (!elected.isEmpty() && !asTheyAre) {
                    Step ahead = s.rounds == 1 ? before : s;
                    for (int c : elected) {
                        if (ahead.votes[c].signum() != 0) {
                            BigInteger[] parts = keeps[c].multiply(ahead.quota).divideAndRemainder(ahead.votes[c]);
                            keeps[c] = parts[1].signum() == 0 ? parts[0] : parts[0].add(BigInteger.ONE);
                            keeps[c] = keeps[c].min(MILLION);
                        }
                    }
                }
                weigh(s);
                s.surplus = BigInteger.ZERO;
                for (int c : elected) {
                    s.surplus = s.surplus.add(s.votes[c].subtract(s.quota).max(BigInteger.ZERO));
                }
                List<Integer> reach = new ArrayList<>(hopeful);
                reach.removeIf(c -> s.votes[c].compareTo(s.quota) < 0);
                if (!reach.isEmpty()) {
                    elect(s, reach);
                    return;
                }
                if (s.surplus.compareTo(BigInteger.valueOf(told.limit)) <= 0 || s.rounds == told.rounds) {
                    exclude(s);
                    return;
                }
            }
        }

        void exclude(Step s) {
            Comparator<Integer> order = Comparator.comparing(c -> s.votes[c]);
            for (int k = steps.size() - 2; k >= 0; k--) {
                Step older = steps.get(k);
                order = order.thenComparing(c -> older.votes[c]);
            }
            order = order.thenComparing(c -> -told.lot.indexOf(c));
            s.excluded = hopeful.stream().min(order).get();
            excludedIn.put(s.excluded, steps.size() - 1);
            hopeful.remove((Integer) s.excluded);
            keeps[s.excluded] = BigInteger.ZERO;
        }

        int bits() {
            return elected.stream().mapToInt(c -> 1 << c).sum();
        }

        Step at(int stage) {
            return stage < 0 || stage >= steps.size() ? null : steps.get(stage);
        }

        List<Integer> ranked() {
            List<Integer> all = new ArrayList<>(elected);
            List<Integer> rest = new ArrayList<>(hopeful);
            if (!rest.isEmpty()) {
                rest.sort(byVotes(steps.get(steps.size() - 1)));
            }
            all.addAll(rest);
            List<Integer> out = new ArrayList<>(excludedIn.keySet());
            out.sort(Comparator.comparing(c -> -excludedIn.get(c)));
            all.addAll(out);
            for (int c = 0; c < told.gone.size(); c++) {
                if (told.gone.get(c)) {
                    all.add(c);
                }
            }
            return all;
        }
    }

    Told told = new Told();
    Told image = null;
    StringBuilder text = new StringBuilder();
    List<long[]> trouble = new ArrayList<>();
    /** Of each tape its sort, then its items; null if it holds nothing. */
    List<List<Long>> tapes = new ArrayList<>(Arrays.asList(null, null, null, null, null, null));
    private Counted last = null;

    private Counted counted() {
        if (last == null) {
            last = new Counted(told);
        }
        return last;
    }

    boolean isCandidate(int c) {
        return c >= 0 && c < told.gone.size();
    }

    boolean isBallot(int b) {
        return b >= 0 && b < told.ballots.size();
    }

    int candidate() {
        if (told.gone.size() == 8) {
            return FULL;
        }
        last = null;
        told.lot.add(told.gone.size());
        told.gone.add(false);
        return told.gone.size() - 1;
    }

    private List<Integer> rowOrNull(int row) {
        List<Integer> r = new ArrayList<>();
        if (row < 0 || Integer.toString(row).length() > 8) {
            return null;
        }
        for (char digit : Integer.toString(row).toCharArray()) {
            int c = digit - '1';
            if (!isCandidate(c) || r.contains(c)) {
                return null;
            }
            r.add(c);
        }
        return r;
    }

    private static boolean tooMany(BigInteger together) {
        return together.multiply(WIDE).compareTo(MOST) > 0;
    }

    private int firstOver(List<Ballot> ballots) {
        BigInteger together = BigInteger.ZERO;
        for (int b = 0; b < ballots.size(); b++) {
            together = together.add(BigInteger.valueOf(ballots.get(b).many));
            if (tooMany(together)) {
                return b;
            }
        }
        return -1;
    }

    private boolean refused(List<Ballot> wouldBe) {
        int first = firstOver(wouldBe);
        if (first >= 0) {
            trouble = List.of(new long[] {5, told.ballots.size()}, new long[] {6, first}, new long[] {7, 0});
        }
        return first >= 0;
    }

    int ballot(int row, int many) {
        List<Integer> r = rowOrNull(row);
        if (r == null || many < 0 || many > 1000000) {
            return BAD;
        }
        if (told.ballots.size() == 24) {
            return FULL;
        }
        List<Ballot> wouldBe = new ArrayList<>(told.ballots);
        wouldBe.add(new Ballot(r, many));
        if (refused(wouldBe)) {
            return OVER;
        }
        last = null;
        told.ballots = wouldBe;
        return wouldBe.size() - 1;
    }

    int many(int ballot, int v) {
        if (!isBallot(ballot)) {
            return NONE;
        }
        if (v < 0 || v > 1000000) {
            return BAD;
        }
        List<Ballot> wouldBe = new ArrayList<>(told.ballots);
        Ballot was = wouldBe.set(ballot, new Ballot(told.ballots.get(ballot).row, v));
        if (refused(wouldBe)) {
            return OVER;
        }
        last = null;
        told.ballots = wouldBe;
        return was.many;
    }

    int drop() {
        if (told.ballots.isEmpty()) {
            return STATE;
        }
        last = null;
        told.ballots.remove(told.ballots.size() - 1);
        return told.ballots.size();
    }

    int gone(int candidate, boolean is) {
        if (!isCandidate(candidate)) {
            return NONE;
        }
        last = null;
        return told.gone.set(candidate, is) ? 1 : 0;
    }

    int set(int what, int v) {
        if (what < 0 || what > 2) {
            return NONE;
        }
        int[] least = {1, 0, 1};
        int[] most = {7, 1000000000, 20};
        if (v < least[what] || v > most[what]) {
            return BAD;
        }
        last = null;
        int was = what == 0 ? told.seats : what == 1 ? told.limit : told.rounds;
        told.seats = what == 0 ? v : told.seats;
        told.limit = what == 1 ? v : told.limit;
        told.rounds = what == 2 ? v : told.rounds;
        return was;
    }

    int swap(int i, int j) {
        if (!isCandidate(i) || !isCandidate(j) || i == j) {
            return NONE;
        }
        last = null;
        java.util.Collections.swap(told.lot, i, j);
        return told.lot.get(i);
    }

    int of(int candidate, int what) {
        if (!isCandidate(candidate) || what < 0 || what > 3) {
            return NONE;
        }
        Counted k = counted();
        boolean in = k.elected.contains(candidate);
        boolean out = k.excludedIn.containsKey(candidate);
        if (what == 0) {
            return told.gone.get(candidate) ? 0 : in ? 2 : out ? 3 : 1;
        }
        if (what == 1) {
            for (int s = 0; s < k.steps.size(); s++) {
                if (k.steps.get(s).elected.contains(candidate) || k.steps.get(s).excluded == candidate) {
                    return s;
                }
            }
            return LACKS;
        }
        if (what == 2) {
            return told.lot.indexOf(candidate);
        }
        return told.ballots.stream().filter(b -> told.here(b.row).indexOf(candidate) == 0).mapToInt(b -> b.many).sum();
    }

    int ballotOf(int ballot, int what) {
        if (!isBallot(ballot) || what < 0 || what > 2) {
            return NONE;
        }
        Ballot b = told.ballots.get(ballot);
        List<Integer> here = told.here(b.row);
        return what == 0 ? b.many : what == 1 ? b.row.size() : here.isEmpty() ? LACKS : here.get(0);
    }

    int rowOf(int ballot, int i) {
        if (!isBallot(ballot) || i < 0 || i >= told.ballots.get(ballot).row.size()) {
            return NONE;
        }
        return told.ballots.get(ballot).row.get(i);
    }

    int told(int what) {
        Counted k = counted();
        int[] all = {told.gone.size(), told.ballots.size(), k.steps.size(), told.seats, told.limit, told.rounds,
            k.elected.size(), k.bits(), told.piles().size()};
        return what < 0 || what >= all.length ? NONE : all[what];
    }

    int stageOf(int stage, int what) {
        Step s = counted().at(stage);
        if (s == null || what < 0 || what > 2) {
            return NONE;
        }
        return what == 0 ? s.rounds : what == 1 ? s.excluded : s.elected.stream().mapToInt(c -> 1 << c).sum();
    }

    long amount(int stage, int what) {
        Step s = counted().at(stage);
        if (s == null || what < 0 || what > 3) {
            return NO;
        }
        return List.of(s.quota, s.excess, s.surplus, s.all).get(what).longValueExact();
    }

    long votes(int stage, int candidate, int what) {
        Step s = counted().at(stage);
        if (s == null || !isCandidate(candidate) || what < 0 || what > 1) {
            return NO;
        }
        return (what == 0 ? s.votes : s.keeps)[candidate].longValueExact();
    }

    int elected(int i) {
        List<Integer> e = counted().elected;
        return i < 0 || i >= e.size() ? LACKS : e.get(i);
    }

    int ranked(int i) {
        List<Integer> r = counted().ranked();
        return i < 0 || i >= r.size() ? NONE : r.get(i);
    }

    int standing(int stage, int i) {
        Step s = counted().at(stage);
        if (s == null) {
            return NONE;
        }
        List<Integer> all = new ArrayList<>(told.lot);
        all.removeIf(told.gone::get);
        all.sort(counted().byVotes(s));
        return i < 0 || i >= all.size() ? NONE : all.get(i);
    }

    int pile(int k, int what) {
        List<Map.Entry<List<Integer>, Integer>> all = new ArrayList<>(told.piles().entrySet());
        if (k < 0 || k >= all.size() || what < 0 || what > 1) {
            return NONE;
        }
        StringBuilder digits = new StringBuilder();
        all.get(k).getKey().forEach(c -> digits.append(c + 1));
        return what == 0 ? Integer.parseInt(digits.toString()) : all.get(k).getValue();
    }

    int preferred(int a, int b) {
        if (!isCandidate(a) || !isCandidate(b) || a == b) {
            return NONE;
        }
        int sum = 0;
        for (Ballot t : told.ballots) {
            boolean stands = t.row.contains(a);
            if (stands && (!t.row.contains(b) || t.row.indexOf(b) > t.row.indexOf(a))) {
                sum += t.many;
            }
        }
        return sum;
    }

    int best() {
        List<Integer> here = new ArrayList<>(told.lot);
        here.removeIf(told.gone::get);
        for (int c : here) {
            if (here.stream().allMatch(d -> d == c || preferred(c, d) > preferred(d, c))) {
                return c;
            }
        }
        return LACKS;
    }

    long share(int stage, int candidate, int part) {
        Step s = counted().at(stage);
        if (s == null || !isCandidate(candidate) || part < 0 || part > 1) {
            return NO;
        }
        BigInteger common = s.votes[candidate].gcd(s.all);
        if (common.signum() == 0) {
            return part;
        }
        return (part == 0 ? s.votes[candidate] : s.all).divide(common).longValueExact();
    }

    int without(int candidate) {
        if (!isCandidate(candidate)) {
            return NONE;
        }
        Told t = told.same();
        t.gone.set(candidate, true);
        return new Counted(t).bits();
    }

    int raised(int ballot, int candidate) {
        if (!isBallot(ballot) || !isCandidate(candidate)) {
            return NONE;
        }
        Told t = told.same();
        List<Integer> row = new ArrayList<>(t.ballots.get(ballot).row);
        row.remove((Integer) candidate);
        row.add(0, candidate);
        t.ballots.set(ballot, new Ballot(row, t.ballots.get(ballot).many));
        return new Counted(t).bits();
    }

    int needs(int candidate, int many) {
        if (!isCandidate(candidate)) {
            return NONE;
        }
        if (many < 1 || many > 10000) {
            return BAD;
        }
        for (int n = 0; n <= 30; n++) {
            Told t = told.same();
            t.ballots.add(new Ballot(List.of(candidate), n * many));
            if (firstOver(t.ballots) >= 0) {
                return LACKS;
            }
            if (new Counted(t).elected.contains(candidate)) {
                return n;
            }
        }
        return LACKS;
    }

    int see(int candidate, boolean is) {
        if (candidate == -1) {
            told.seen.clear();
            return 0;
        }
        if (!isCandidate(candidate)) {
            return NONE;
        }
        if (told.seen.size() == 5) {
            return FULL;
        }
        told.seen.add(new Object[] {candidate, is});
        return told.seen.size();
    }

    int fits(int what) {
        if (what != 0 && what != 1) {
            return NONE;
        }
        List<Integer> fitting = new ArrayList<>();
        for (int seats = 1; seats <= 7; seats++) {
            Told t = told.same();
            t.seats = seats;
            List<Integer> who = new Counted(t).elected;
            if (told.seen.stream().allMatch(s -> who.contains(s[0]) == (Boolean) s[1])) {
                fitting.add(seats);
            }
        }
        return what == 0 ? fitting.size() : fitting.isEmpty() ? LACKS : fitting.get(0);
    }

    int event(int what, int n) {
        if (what == -1) {
            told.events.clear();
            return 0;
        }
        if (what < 0 || what > 3 || what != 2 && !isCandidate(n)) {
            return NONE;
        }
        if (what == 2 && (n < 1 || n > 7)) {
            return BAD;
        }
        if (told.events.size() == 8) {
            return FULL;
        }
        told.events.add(new int[] {what, n});
        return told.events.size();
    }

    int after() {
        Told t = told.same();
        for (int[] e : told.events) {
            if (e[0] == 2) {
                t.seats = e[1];
            } else if (e[0] == 3) {
                t.ballots.replaceAll(b -> t.here(b.row).indexOf(e[1]) == 0 ? new Ballot(b.row, 0) : b);
            } else {
                t.gone.set(e[1], e[0] == 0);
            }
        }
        return new Counted(t).bits();
    }

    int feed(int sign) {
        if (sign < 0 || sign > 127) {
            return BAD;
        }
        if (text.length() == 100) {
            return FULL;
        }
        text.append((char) sign);
        return text.length();
    }

    private static final String CLAUSE = "(?:c|b[0-9]{1,8}\\*[0-9]{1,7}|s[0-9]|l[0-9]{1,9}|g[0-9])";
    private static final Pattern SETUP = Pattern.compile(CLAUSE + "(?:;" + CLAUSE + "){0,11}");

    /** Whether a set-up begins so. */
    private static boolean begins(String part) {
        Matcher m = SETUP.matcher(part);
        return m.matches() || m.hitEnd();
    }

    int read() {
        String all = text.toString();
        text.setLength(0);
        if (!SETUP.matcher(all).matches()) {
            int fault = 0;
            while (fault < all.length() && begins(all.substring(0, fault + 1))) {
                fault++;
            }
            tellFault(all, fault);
            return -10 - fault;
        }
        int done = 0;
        for (String clause : all.split(";")) {
            done += isDone(clause) ? 1 : 0;
        }
        return done;
    }

    private void tellFault(String all, int fault) {
        String ahead = all.substring(0, fault);
        long[] sign = {4, fault < all.length() ? all.charAt(fault) : -1};
        long semicolons = ahead.chars().filter(c -> c == ';').count();
        if (SETUP.matcher(ahead).matches()) {
            trouble = List.of(new long[] {1, semicolons + 1}, sign);
            return;
        }
        int start = ahead.lastIndexOf(';') + 1;
        boolean lacks = fault > start && "bslg*".indexOf(ahead.charAt(fault - 1)) >= 0;
        trouble = List.of(new long[] {1, semicolons}, new long[] {2, start}, lacks ? new long[] {3, fault} : sign);
    }

    private boolean isDone(String clause) {
        String rest = clause.substring(1);
        switch (clause.charAt(0)) {
            case 'c':
                return candidate() >= 0;
            case 'b':
                String[] parts = rest.split("\\*");
                return ballot(Integer.parseInt(parts[0]), Integer.parseInt(parts[1])) >= 0;
            case 's':
                return set(0, Integer.parseInt(rest)) >= 0;
            case 'l':
                return set(1, Integer.parseInt(rest)) >= 0;
            default:
                return gone(Integer.parseInt(rest), true) >= 0;
        }
    }

    int cause(int i, int what) {
        if (i < 0 || what < 0 || what > 1) {
            return NONE;
        }
        return i < trouble.size() ? (int) trouble.get(i)[what] : LACKS;
    }

    int judge(int stage, int tape, int i) {
        Step s = counted().at(stage);
        if (s == null || tape < 0 || tape > 5) {
            return NONE;
        }
        List<Long> t = tapes.get(tape);
        if (t == null) {
            return 100;
        }
        if (t.get(0) != 3) {
            return CAST;
        }
        if (i < 0) {
            return 100;
        }
        for (int c = 0; c < told.gone.size(); c++) {
            if ((long) i + c >= t.size() - 1) {
                return 100 + c;
            }
            if (t.get(1 + i + c) != s.votes[c].longValueExact()) {
                return c;
            }
        }
        return LACKS;
    }

    int image() {
        image = told.same();
        return told.ballots.size();
    }

    int undo() {
        if (image == null) {
            return STATE;
        }
        last = null;
        told = image.same();
        return told.ballots.size();
    }

    int count(int what) {
        return what == 0 ? told.seen.size() : what == 1 ? told.events.size() : what == 2 ? text.length() : BAD;
    }

    int tape(int tape, int sort, int n) {
        if (tape < 0 || tape > 5) {
            return NONE;
        }
        if (sort == -1) {
            tapes.set(tape, null);
            return 1;
        }
        if (sort < 0 || sort > 4 || n > 60) {
            return BAD;
        }
        if (n < 0) {
            return SIZE;
        }
        List<Long> row = new ArrayList<>(java.util.Collections.nCopies(n + 1, 0L));
        row.set(0, (long) sort);
        tapes.set(tape, row);
        return 1;
    }

    int item(int tape, int i, long v) {
        if (tape < 0 || tape > 5) {
            return NONE;
        }
        List<Long> t = tapes.get(tape);
        if (t == null) {
            return NOTHING;
        }
        if (i < 0 || i >= t.size() - 1) {
            return PLACE;
        }
        int[] bits = {8, 16, 32, 64};
        int sort = t.get(0).intValue();
        if (sort == 4) {
            t.set(i + 1, v != 0 ? 1L : 0L);
        } else {
            int cut = 64 - bits[sort];
            t.set(i + 1, v << cut >> cut);
        }
        return 1;
    }

    long peek(int tape, int i) {
        if (tape < 0 || tape > 5 || tapes.get(tape) == null || i < 0 || i >= tapes.get(tape).size() - 1) {
            return NO;
        }
        return tapes.get(tape).get(i + 1);
    }

    int shift(int tape, int i, int other, int j, int n) {
        if (tape < 0 || tape > 5 || other < 0 || other > 5) {
            return NONE;
        }
        List<Long> from = tapes.get(tape);
        List<Long> to = tapes.get(other);
        if (from == null || to == null) {
            return NOTHING;
        }
        if (!from.get(0).equals(to.get(0))) {
            return CAST;
        }
        if (n < 0 || i < 0 || j < 0 || (long) i + n > from.size() - 1 || (long) j + n > to.size() - 1) {
            return PLACE;
        }
        List<Long> moved = new ArrayList<>(from.subList(i + 1, i + 1 + n));
        for (int k = 0; k < n; k++) {
            to.set(j + 1 + k, moved.get(k));
        }
        return n;
    }
}
