/** The bounds of set-ups, their FAULTS, and TROUBLE with its CAUSES. */
public final class TextBoundsTest {
    private static final int NONE = -1, LACKS = -5, OVER = -15;
    private static final int TEXT = 1, CLAUSE = 2, NUMBER = 3, SIGN = 4, COUNT = 5, SUM = 6, HOST = 7;

    private static final Check check = new Check();

    private static void due(String call, long want, long got) {
        check.due(call, want, got);
    }

    public static void main(String[] args) {
        kinds();
        clauseC();
        rowDigits();
        manyDigits();
        seatsDigit();
        limitDigits();
        goneDigit();
        twelveClauses();
        hundredBytes();
        oneBehindTheOther();
        emptyText();
        faultAtTheFirstByte();
        faultBehindAClause();
        faultInAClause();
        lackingNumbers();
        behindSemicolon();
        thirteenth();
        everySignFirst();
        nothingIsDone();
        faultBehindFault();
        troubleStays();
        troubleOfOver();
        overInRead();
        causes();
        check.end(1500);
    }

    /** CANDIDATES, then what is read and how many CLAUSES are done. */
    private static KeepCount done(int candidates, String text, int clauses) {
        KeepCount x = Made.candidates(candidates);
        due("read of " + text, clauses, Made.read(x, text));
        due("THE TEXT is empty after " + text, 0, x.count(2));
        due("no TROUBLE by " + text, LACKS, x.cause(0, 0));
        return x;
    }

    /** A FAULT at a place, then sorts and numbers of TROUBLE. */
    private static KeepCount fault(String text, int place, int... trouble) {
        KeepCount x = Made.candidates(1);
        due("read of " + text, -10 - place, Made.read(x, text));
        due("THE TEXT is empty after " + text, 0, x.count(2));
        trouble(text, x, trouble);
        return x;
    }

    private static void trouble(String of, KeepCount x, int... due) {
        for (int k = 0; k < due.length; k++) {
            due("cause(" + k / 2 + ", " + k % 2 + ") of " + of, due[k], x.cause(k / 2, k % 2));
        }
        for (int i = due.length / 2; i <= 4; i++) {
            due("cause(" + i + ", 0) of " + of, LACKS, x.cause(i, 0));
            due("cause(" + i + ", 1) of " + of, LACKS, x.cause(i, 1));
        }
    }

    /** "CLAUSES, 1 to 12, with ; between". */
    private static void kinds() {
        check.about("each kind");
        due("c", 1, done(0, "c", 1).told(0));
        due("b", 2, done(3, "b312*40", 1).rowOf(0, 0));
        due("s", 7, done(0, "s7", 1).told(3));
        due("l", 5, done(0, "l5", 1).told(4));
        due("g", 0, done(1, "g0", 1).of(0, 0));
        due("all", 2, done(0, "c;c;b21*3;s2;l0;g1", 6).told(0));
    }

    private static void clauseC() {
        check.about("c");
        due("the 8th", 8, done(7, "c", 1).told(0));
        due("the 9th", 8, done(8, "c", 0).told(0));
        due("two, one of them is the 9th", 8, done(7, "c;c", 1).told(0));
        fault("c1", 1, TEXT, 1, SIGN, '1');
    }

    /** "ROW 1 to 8 digits". */
    private static void rowDigits() {
        check.about("ROW's digits");
        String digits = "";
        for (int n = 1; n <= 8; n++) {
            digits += n;
            KeepCount x = done(8, "b" + digits + "*1", 1);
            due("how many", n, x.ballotOf(0, 1));
            due("the last", n - 1, x.rowOf(0, n - 1));
            if (n < 8) {
                done(n - 1, "b" + digits + "*1", 0);
            }
        }
        fault("b123456781*1", 9, TEXT, 0, CLAUSE, 0, SIGN, '1');
        fault("b123456781", 9, TEXT, 0, CLAUSE, 0, SIGN, '1');
        fault("b12345678", 9, TEXT, 0, CLAUSE, 0, SIGN, -1);
        fault("b1", 2, TEXT, 0, CLAUSE, 0, SIGN, -1);
        fault("b", 1, TEXT, 0, CLAUSE, 0, NUMBER, 1);
        fault("b*1", 1, TEXT, 0, CLAUSE, 0, NUMBER, 1);
        for (String row : new String[] {"0", "9", "00000000", "99999999", "11", "10", "101", "19", "4"}) {
            due("told(1)", 0, done(3, "b" + row + "*1", 0).told(1));
        }
        fault("b/*1", 1, TEXT, 0, CLAUSE, 0, NUMBER, 1);
        fault("b:*1", 1, TEXT, 0, CLAUSE, 0, NUMBER, 1);
        fault("b1/1", 2, TEXT, 0, CLAUSE, 0, SIGN, '/');
        fault("b1:1", 2, TEXT, 0, CLAUSE, 0, SIGN, ':');
        fault("b1+1", 2, TEXT, 0, CLAUSE, 0, SIGN, '+');
        fault("b1)1", 2, TEXT, 0, CLAUSE, 0, SIGN, ')');
    }

    /** "MANY 1 to 7". */
    private static void manyDigits() {
        check.about("MANY's digits");
        int[] many = {0, 1, 9, 10, 99, 999, 9999, 99999, 999999, 1000000};
        for (int m : many) {
            due("MANY", m, done(1, "b1*" + m, 1).ballotOf(0, 0));
        }
        for (int m : new int[] {1000001, 1999999, 9999999}) {
            due("told(1)", 0, done(1, "b1*" + m, 0).told(1));
        }
        due("0 ahead", 0, done(1, "b1*0000000", 1).ballotOf(0, 0));
        due("0 ahead", 1, done(1, "b1*0000001", 1).ballotOf(0, 0));
        due("0 ahead", 999999, done(1, "b1*0999999", 1).ballotOf(0, 0));
        fault("b1*00000001", 10, TEXT, 1, SIGN, '1');
        fault("b1*10000000", 10, TEXT, 1, SIGN, '0');
        fault("b1*", 3, TEXT, 0, CLAUSE, 0, NUMBER, 3);
        fault("b1*;", 3, TEXT, 0, CLAUSE, 0, NUMBER, 3);
        fault("b1*-1", 3, TEXT, 0, CLAUSE, 0, NUMBER, 3);
        fault("b1*/", 3, TEXT, 0, CLAUSE, 0, NUMBER, 3);
        fault("b1*:", 3, TEXT, 0, CLAUSE, 0, NUMBER, 3);
        fault("b1*1/", 4, TEXT, 1, SIGN, '/');
        fault("b1*1:", 4, TEXT, 1, SIGN, ':');
    }

    /** "s SEATS (a digit)". */
    private static void seatsDigit() {
        check.about("SEATS' digit");
        for (int s = 0; s <= 9; s++) {
            boolean is = s >= 1 && s <= 7;
            due("SEATS", is ? s : 1, done(0, "s" + s, is ? 1 : 0).told(3));
        }
        fault("s", 1, TEXT, 0, CLAUSE, 0, NUMBER, 1);
        fault("s/", 1, TEXT, 0, CLAUSE, 0, NUMBER, 1);
        fault("s:", 1, TEXT, 0, CLAUSE, 0, NUMBER, 1);
        fault("s;", 1, TEXT, 0, CLAUSE, 0, NUMBER, 1);
        fault("s11", 2, TEXT, 1, SIGN, '1');
        fault("s07", 2, TEXT, 1, SIGN, '7');
    }

    /** "l LIMIT (1 to 9 digits)". */
    private static void limitDigits() {
        check.about("LIMIT's digits");
        String digits = "";
        int limit = 0;
        for (int n = 1; n <= 9; n++) {
            digits += 9;
            limit = limit * 10 + 9;
            due("LIMIT", limit, done(0, "l" + digits, 1).told(4));
        }
        due("0", 0, done(0, "l0", 1).told(4));
        due("0", 0, done(0, "l000000000", 1).told(4));
        due("0 ahead", 1, done(0, "l000000001", 1).told(4));
        fault("l0000000001", 10, TEXT, 1, SIGN, '1');
        fault("l1000000000", 10, TEXT, 1, SIGN, '0');
        fault("l", 1, TEXT, 0, CLAUSE, 0, NUMBER, 1);
        fault("l-1", 1, TEXT, 0, CLAUSE, 0, NUMBER, 1);
        fault("l/", 1, TEXT, 0, CLAUSE, 0, NUMBER, 1);
        fault("l:", 1, TEXT, 0, CLAUSE, 0, NUMBER, 1);
        fault("l9*", 2, TEXT, 1, SIGN, '*');
    }

    /** "g CANDIDATE (a digit, its number as it is, from 0: it is GONE)". */
    private static void goneDigit() {
        check.about("g's digit");
        for (int g = 0; g <= 9; g++) {
            KeepCount x = done(8, "g" + g, g <= 7 ? 1 : 0);
            for (int c = 0; c < 8; c++) {
                due("gone(" + c + ")", c == g ? 1 : 0, x.gone(c, false));
            }
        }
        due("of 3", 0, done(3, "g2", 1).of(2, 0));
        done(3, "g3", 0);
        done(0, "g0", 0);
        done(1, "g0;g0", 2);
        fault("g", 1, TEXT, 0, CLAUSE, 0, NUMBER, 1);
        fault("g;", 1, TEXT, 0, CLAUSE, 0, NUMBER, 1);
        fault("g/", 1, TEXT, 0, CLAUSE, 0, NUMBER, 1);
        fault("g:", 1, TEXT, 0, CLAUSE, 0, NUMBER, 1);
        fault("g00", 2, TEXT, 1, SIGN, '0');
    }

    private static void twelveClauses() {
        check.about("12 CLAUSES");
        String text = "s1";
        for (int n = 1; n <= 12; n++) {
            KeepCount x = done(0, text, n);
            due("SEATS by the last", n == 1 ? 1 : 1 + (n - 1) % 7, x.told(3));
            text += ";s" + (1 + n % 7);
        }
        fault(text, 12 * 3 - 1, TEXT, 12, SIGN, ';');
        due("12 that are refused", 1, done(0, "s0;s8;s9;g0;g9;b1*1;b0*0;g1;b11*1;b9*9;g8;b2*2", 0).told(3));
    }

    /** "bytes, 100 at most". */
    private static void hundredBytes() {
        check.about("100 bytes");
        String ballots = "b12345678*1000000;b87654321*1000000;b12345678*0000001;b87654321*0999999;";
        String text = ballots + "l123456789;l0000009;b8*12;s6";
        due("bytes", 100, text.length());
        KeepCount x = done(8, text, 8);
        due("told(1)", 5, x.told(1));
        due("SEATS by the last byte", 6, x.told(3));
        due("LIMIT", 9, x.told(4));
        due("MANY", 12, x.ballotOf(4, 0));
        for (int k = 1; k <= 100; k++) {
            due("feed", k, x.feed(text.charAt(k - 1)));
        }
        due("the 101st", -4, x.feed('0'));
        due("is none of it: all are done but two that are OVER", 6, x.read());
        KeepCount end = fault(text.substring(0, 99) + ";", 99, TEXT, 7, CLAUSE, 98, NUMBER, 99);
        due("told(1)", 0, end.told(1));
        KeepCount behind = fault(text.substring(0, 97) + "1;;", 99, TEXT, 7, CLAUSE, 99, SIGN, ';');
        due("told(1)", 0, behind.told(1));
        fault(text.substring(0, 97) + "12;", 100, TEXT, 7, CLAUSE, 100, SIGN, -1);
    }

    /** "they are done, one behind the other; those that would be refused aren't". */
    private static void oneBehindTheOther() {
        check.about("one behind the other");
        due("BALLOT of one that comes ahead", 1, done(0, "c;b1*1", 2).told(1));
        due("BALLOT of one that comes behind", 0, done(0, "b1*1;c", 1).told(1));
        due("GONE, comes ahead", 0, done(0, "c;g0", 2).of(0, 0));
        due("GONE, comes behind", 2, done(0, "g0;c", 1).of(0, 0));
        due("the last SEATS", 3, done(0, "s2;s0;s3;s8", 2).told(3));
        due("GONE ones on a ROW", 1, done(2, "g1;b2*4", 2).told(1));
        KeepCount x = Made.candidates(1);
        for (int b = 0; b < 23; b++) {
            x.ballot(1, 0);
        }
        due("the 24th, not the 25th", 2, Made.read(x, "b1*0;b1*0;s2"));
        due("told(1)", 24, x.told(1));
        due("SEATS", 2, x.told(3));
    }

    /** "the end of THE TEXT, if it ends too early". */
    private static void emptyText() {
        check.about("THE TEXT is empty");
        KeepCount x = fault("", 0, TEXT, 0, CLAUSE, 0, SIGN, -1);
        due("read() once more", -10, x.read());
        due("done", 1, Made.read(x, "c"));
        due("read() behind that", -10, x.read());
        due("told(0)", 2, x.told(0));
    }

    /** "The FAULT at the first byte has TEXT 0 by CLAUSE 0". */
    private static void faultAtTheFirstByte() {
        check.about("the FAULT at the first byte");
        for (String text : new String[] {";", "x", "C", " c", "1", "*", "a", "d", "r", "t", "k", "m", "f", "h", "\0", "\177"}) {
            fault(text, 0, TEXT, 0, CLAUSE, 0, SIGN, text.charAt(0));
        }
        fault(";c", 0, TEXT, 0, CLAUSE, 0, SIGN, ';');
        fault("x;c", 0, TEXT, 0, CLAUSE, 0, SIGN, 'x');
    }

    /** "but if it is right behind a whole CLAUSE: 1 TEXT by 4 SIGN". */
    private static void faultBehindAClause() {
        check.about("the FAULT right behind a CLAUSE");
        for (char sign : new char[] {'c', 'b', '*', ' ', ':', '<', 'x', 0, 127}) {
            fault("c" + sign, 1, TEXT, 1, SIGN, sign);
            fault("s1;c" + sign + ";x", 4, TEXT, 2, SIGN, sign);
            fault("s1" + sign, 2, TEXT, 1, SIGN, sign);
            fault("g1" + sign, 2, TEXT, 1, SIGN, sign);
            fault("l1" + sign, 2, TEXT, 1, SIGN, sign);
            fault("b1*1" + sign, 4, TEXT, 1, SIGN, sign);
            fault("b1*1234567" + sign, 10, TEXT, 1, SIGN, sign);
            fault("l123456789" + sign, 10, TEXT, 1, SIGN, sign);
        }
    }

    private static void faultInAClause() {
        check.about("the FAULT in a CLAUSE");
        String ahead = "";
        for (int n = 0; n < 12; n++) {
            int at = ahead.length();
            fault(ahead + "b12", at + 3, TEXT, n, CLAUSE, at, SIGN, -1);
            fault(ahead + "b1x", at + 2, TEXT, n, CLAUSE, at, SIGN, 'x');
            fault(ahead + "b1;c", at + 2, TEXT, n, CLAUSE, at, SIGN, ';');
            fault(ahead + "b", at + 1, TEXT, n, CLAUSE, at, NUMBER, at + 1);
            fault(ahead + "b3*", at + 3, TEXT, n, CLAUSE, at, NUMBER, at + 3);
            fault(ahead + "x", at, TEXT, n, CLAUSE, at, SIGN, 'x');
            fault(ahead + "cc", at + 1, TEXT, n + 1, SIGN, 'c');
            ahead += "l1" + n + ";";
        }
    }

    /** "by 3 NUMBER (the FAULT), if a number lacks". */
    private static void lackingNumbers() {
        check.about("a number lacks");
        for (String clause : new String[] {"s", "l", "g", "b", "b1*", "b12345678*"}) {
            for (String end : new String[] {"", ";", "x", "*", " 1", "-1", "c", "\0", "/", ":"}) {
                int at = clause.length();
                fault(clause + end, at, TEXT, 0, CLAUSE, 0, NUMBER, at);
                fault("c;" + clause + end, at + 2, TEXT, 1, CLAUSE, 2, NUMBER, at + 2);
            }
        }
    }

    /** "behind a ; at the end CLAUSE is the length, and SIGN -1". */
    private static void behindSemicolon() {
        check.about("; at the end");
        String text = "";
        for (int n = 1; n <= 11; n++) {
            text += n % 2 == 0 ? "s3;" : "c;";
            fault(text, text.length(), TEXT, n, CLAUSE, text.length(), SIGN, -1);
            fault(text + ";", text.length(), TEXT, n, CLAUSE, text.length(), SIGN, ';');
            fault(text + " ", text.length(), TEXT, n, CLAUSE, text.length(), SIGN, ' ');
        }
    }

    /** "A 13th CLAUSE is a FAULT at the ; ahead of it." */
    private static void thirteenth() {
        check.about("the 13th CLAUSE");
        String text = "c;s1;l2;g0;b1*1;c;c;c;c;c;c;s3";
        due("12 of them", 10, Made.read(new KeepCount(), "c;s1;l2;g0;b0*1;c;c;c;c;c;c;s9"));
        for (String end : new String[] {";", ";c", ";x", ";;", ";c;c", ";b1*"}) {
            fault(text + end, text.length(), TEXT, 12, SIGN, ';');
        }
        fault(text + "1", text.length(), TEXT, 12, SIGN, '1');
        fault(text.substring(0, text.length() - 1), text.length() - 1, TEXT, 11, CLAUSE, text.length() - 2, NUMBER,
            text.length() - 1);
    }

    /** Each of the 128 signs, first and right behind a CLAUSE. */
    private static void everySignFirst() {
        check.about("each sign");
        for (int sign = 0; sign < 128; sign++) {
            KeepCount x = Made.candidates(1);
            x.feed(sign);
            boolean number = sign == 'b' || sign == 's' || sign == 'l' || sign == 'g';
            due("read of sign " + sign, sign == 'c' ? 1 : number ? -11 : -10, x.read());
            due("its last CAUSE", sign == 'c' ? LACKS : number ? NUMBER : SIGN, x.cause(2, 0));
            due("its number", sign == 'c' ? LACKS : number ? 1 : sign, x.cause(2, 1));
            x.feed('c');
            x.feed(sign);
            due("read of c and sign " + sign, sign == ';' ? -12 : -11, x.read());
            due("its CAUSE", sign == ';' ? CLAUSE : SIGN, x.cause(1, 0));
        }
    }

    /** "Without FAULT they are done": with one, none is; THE TEXT is empty all the same. */
    private static void nothingIsDone() {
        check.about("with a FAULT nothing is done");
        KeepCount x = Made.candidates(2);
        due("read", -10 - 22, Made.read(x, "c;b12*5;s2;l7;g0;c;s3;"));
        due("CANDIDATES", 2, x.told(0));
        due("BALLOTS", 0, x.told(1));
        due("SEATS", 1, x.told(3));
        due("LIMIT", 1000, x.told(4));
        due("GONE", 0, x.gone(0, false));
        due("THE TEXT", 0, x.count(2));
        due("feed", 1, x.feed('c'));
        due("read", 1, x.read());
    }

    /** TROUBLE is of the latest FAULT alone. */
    private static void faultBehindFault() {
        check.about("one FAULT behind the other");
        String[] texts = {"b1*", "x", "s", "cc", "l", "b1x", "g", ";", "b", "c;"};
        int[][] due = {{TEXT, 0, CLAUSE, 0, NUMBER, 3}, {TEXT, 0, CLAUSE, 0, SIGN, 'x'}, {TEXT, 0, CLAUSE, 0, NUMBER, 1},
            {TEXT, 1, SIGN, 'c'}, {TEXT, 0, CLAUSE, 0, NUMBER, 1}, {TEXT, 0, CLAUSE, 0, SIGN, 'x'},
            {TEXT, 0, CLAUSE, 0, NUMBER, 1}, {TEXT, 0, CLAUSE, 0, SIGN, ';'}, {TEXT, 0, CLAUSE, 0, NUMBER, 1},
            {TEXT, 1, CLAUSE, 2, SIGN, -1}};
        KeepCount x = Made.candidates(1);
        for (int k = 0; k < texts.length; k++) {
            Made.read(x, texts[k]);
            trouble(texts[k], x, due[k]);
        }
    }

    /** "it stays till the next such". */
    private static void troubleStays() {
        check.about("TROUBLE stays");
        KeepCount x = Made.candidates(1);
        Made.read(x, "b1x");
        int[] due = {TEXT, 0, CLAUSE, 0, SIGN, 'x'};
        due("read", 2, Made.read(x, "c;s2"));
        trouble("a right text", x, due);
        due("read", 0, Made.read(x, "s0;g9;b9*1;b1*1000001"));
        trouble("refused CLAUSES", x, due);
        x.ballot(9, 1);
        x.many(0, 1);
        x.undo();
        trouble("refused calls", x, due);
        x.image();
        Made.ballots(x, 1, 1000000, 1, 1000000, 1, 1000000, 1, 1000000);
        due("OVER", OVER, x.ballot(1, 1000000));
        trouble("OVER", x, COUNT, 4, SUM, 4, HOST, 0);
        x.undo();
        trouble("undo", x, COUNT, 4, SUM, 4, HOST, 0);
        due("needs", 0, x.needs(0, 10000));
        due("raised", NONE, x.raised(0, 0));
        trouble("what would be", x, COUNT, 4, SUM, 4, HOST, 0);
        due("a FAULT", -10, x.read());
        trouble("the next FAULT", x, TEXT, 0, CLAUSE, 0, SIGN, -1);
    }

    /** "how many BALLOTS there are"; "the first BALLOT with which it is OVER, all ahead of it counted". */
    private static void troubleOfOver() {
        check.about("TROUBLE of OVER");
        KeepCount x = Made.candidates(1);
        for (int b = 0; b < 23; b++) {
            x.ballot(1, 200000);
        }
        due("together 4600000; 11687 more", OVER, x.ballot(1, 11687));
        trouble("a 24th", x, COUNT, 23, SUM, 23, HOST, 0);
        due("11686 more", 23, x.ballot(1, 11686));
        due("many(0, 200001)", OVER, x.many(0, 200001));
        trouble("1 more of the first: the last one's", x, COUNT, 24, SUM, 23, HOST, 0);
        int[] many = {211686, 211687, 411686, 411687, 999999};
        int[] first = {23, 22, 22, 21, 19};
        for (int k = 0; k < many.length; k++) {
            due("many(0, " + many[k] + ")", OVER, x.many(0, many[k]));
            trouble(many[k] + " of the first", x, COUNT, 24, SUM, first[k], HOST, 0);
        }
        due("many(0, 1000000)", OVER, x.many(0, 1000000));
        trouble("800000 more", x, COUNT, 24, SUM, 19, HOST, 0);
        due("many(23, 11687)", OVER, x.many(23, 11687));
        trouble("1 more of the last", x, COUNT, 24, SUM, 23, HOST, 0);
        due("many(22, 1000000)", OVER, x.many(22, 1000000));
        trouble("of the one ahead", x, COUNT, 24, SUM, 22, HOST, 0);
        due("drop()", 23, x.drop());
        due("many(22, 211686)", 200000, x.many(22, 211686));
        due("many(22, 211687)", OVER, x.many(22, 211687));
        trouble("the last of 23", x, COUNT, 23, SUM, 22, HOST, 0);
        due("ballot(1, 1)", OVER, x.ballot(1, 1));
        trouble("the 24th that isn't", x, COUNT, 23, SUM, 23, HOST, 0);
    }

    /** "or call (a CLAUSE of read(), too) refused as OVER". */
    private static void overInRead() {
        check.about("OVER in read");
        KeepCount x = Made.candidates(1);
        String four = "b1*1000000;b1*1000000;b1*1000000;b1*1000000;";
        due("the 5th", 5, Made.read(x, four + "b1*611687;s2"));
        trouble("the 5th", x, COUNT, 4, SUM, 4, HOST, 0);
        due("SEATS", 2, x.told(3));
        due("two are refused", 3, Made.read(x, "b1*1000000;b1*600000;b1*0;b1*11687;c"));
        trouble("the latest of them", x, COUNT, 6, SUM, 6, HOST, 0);
        due("told(1)", 6, x.told(1));
        due("the rest", 1, Made.read(x, "b1*11686"));
        trouble("it stays", x, COUNT, 6, SUM, 6, HOST, 0);
        due("one with a FAULT isn't tried", -10 - 5, Made.read(x, "b1*1;"));
        trouble("of the FAULT", x, TEXT, 1, CLAUSE, 5, SIGN, -1);
    }

    /** "-5: there is none such. NONE: i is below 0, what." */
    private static void causes() {
        check.about("Promise 32, cause");
        KeepCount x = new KeepCount();
        due("no TROUBLE", LACKS, x.cause(0, 0));
        due("no TROUBLE", LACKS, x.cause(0, 1));
        due("no TROUBLE, no such what", NONE, x.cause(0, 2));
        due("no TROUBLE, below 0", NONE, x.cause(-1, 0));
        x.read();
        due("the last of three", SIGN, x.cause(2, 0));
        due("its number", -1, x.cause(2, 1));
        due("the 4th", LACKS, x.cause(3, 0));
        due("MAX", LACKS, x.cause(Integer.MAX_VALUE, 1));
        due("MIN", NONE, x.cause(Integer.MIN_VALUE, 1));
        due("cause(2, 2)", NONE, x.cause(2, 2));
        due("cause(2, -1)", NONE, x.cause(2, -1));
        due("cause(-1, 1)", NONE, x.cause(-1, 1));
        Made.read(x, "c c");
        due("the last of two", SIGN, x.cause(1, 0));
        due("the 3rd", LACKS, x.cause(2, 0));
    }
}
