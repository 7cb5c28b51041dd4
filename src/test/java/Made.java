/** Objects to begin with: each make() makes a new one, always the same. */
enum Made {
    /** A new object. */
    NOTHING {
        @Override
        KeepCount make() {
            return new KeepCount();
        }
    },

    /** A bit of all: a CANDIDATE that is GONE, another LOT, an image of something else, a FAULT, rows of each sort. */
    SOME {
        @Override
        KeepCount make() {
            KeepCount x = candidates(4);
            x.swap(0, 3);
            x.ballot(12, 7);
            x.gone(1, true);
            x.set(0, 3);
            x.see(1, false);
            x.event(2, 3);
            x.image();
            x.gone(1, false);
            x.gone(2, true);
            x.set(0, 2);
            x.set(1, 500);
            x.set(2, 9);
            ballots(x, 342, 9, 4, 11, 213, 5, 31, 0, 2, 6);
            x.see(-1, true);
            x.see(0, true);
            x.see(3, false);
            x.event(-1, 0);
            x.event(0, 0);
            x.event(3, 1);
            x.event(2, 1);
            tapes(x, 3, 2, 4, 6, 2);
            read(x, "c;x");
            feed(x, "s3;b14*6");
            return x;
        }
    },

    /** All places taken: CANDIDATES, BALLOTS, MANY together, SEEN, EVENTS, THE TEXT, items; the latest TROUBLE is OVER. */
    FULL {
        @Override
        KeepCount make() {
            KeepCount x = candidates(8);
            x.set(0, 3);
            x.set(1, 0);
            ballots(x, 12345678, 1000000, 23, 1000000, 34, 900000, 45, 800000);
            for (int c = 1; c <= 8; c++) {
                ballots(x, c, 0, c * 10 + c % 8 + 1, c);
            }
            ballots(x, 876, 0, 765, 0);
            x.image();
            // 3700036 came till now; the last one has the rest of 4611686.
            ballots(x, 7, 0, 8, 911650);
            for (int k = 0; k < 5; k++) {
                x.see(k, k < 2);
            }
            for (int k = 0; k < 8; k++) {
                x.event(k % 4, 1 + k % 7);
            }
            tapes(x, 60, 60, 60, 60, 60);
            x.tape(5, 3, 60);
            x.many(22, 1);
            feed(x, "b12345678*0000001;b87654321*0000002;b34*1234567;l123456789;l000000000;s1;s2;s3;s4;s5;l12345678;l1234");
            return x;
        }
    },

    /** As many MANY together as there may be; more BALLOTS have room. There is no image. */
    EDGE {
        @Override
        KeepCount make() {
            KeepCount x = candidates(3);
            x.set(0, 2);
            ballots(x, 12, 1000000, 21, 1000000, 31, 1000000, 3, 1000000, 231, 611686);
            read(x, "b1*");
            return x;
        }
    };

    abstract KeepCount make();

    static KeepCount candidates(int n) {
        KeepCount x = new KeepCount();
        for (int c = 0; c < n; c++) {
            x.candidate();
        }
        return x;
    }

    /** ROWS, each with its MANY. */
    static KeepCount ballots(KeepCount x, int... rowsAndMany) {
        for (int k = 0; k + 1 < rowsAndMany.length; k += 2) {
            x.ballot(rowsAndMany[k], rowsAndMany[k + 1]);
        }
        return x;
    }

    static void feed(KeepCount x, String text) {
        for (int k = 0; k < text.length(); k++) {
            x.feed(text.charAt(k));
        }
    }

    static int read(KeepCount x, String text) {
        feed(x, text);
        return x.read();
    }

    /** A TAPE of each sort, in their order, of these sizes, with something in each item. */
    private static void tapes(KeepCount x, int... sizes) {
        for (int sort = 0; sort < sizes.length; sort++) {
            x.tape(sort, sort, sizes[sort]);
            x.item(sort, 0, 1);
            x.item(sort, sizes[sort] - 1, sort == 4 ? 1 : -100 - sort);
        }
    }
}
