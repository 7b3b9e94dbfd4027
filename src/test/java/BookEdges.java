/** Promises 17 to 23, sentence by sentence. */
final class BookEdges {
    private static final int UNKNOWN = ToteHouse.UNKNOWN, OUTSIDE = ToteHouse.OUTSIDE, SAME = ToteHouse.SAME,
            GONE = ToteHouse.GONE, STATE = ToteHouse.STATE;
    private static final int ZERO = -16;

    private BookEdges() {
    }

    private static void due(long got, long want) {
        Check.due(got, want);
    }

    static void all() {
        odds();
        books();
        sums();
        worsts();
        premiums();
    }

    private static void odds() {
        Doc.promise(17, "What dividend() of a POOL of a RACE would tell for its RUNNERS, if the RACE became OFFICIAL"
                + " now, a having POSITION 1, b 2, c 3, no others any", BookEdges::oddsAreTheDividends);
        Doc.promise(17, "(c 0: two alone);", BookEdges::oddsOfTwoAlone);
        Doc.promise(17, "nothing is changed.", BookEdges::oddsChangeNothing);
        Doc.promise(17, "UNKNOWN: also THE DOUBLE;", BookEdges::oddsUnknown);
        Doc.promise(17, "OUTSIDE: a, b, c are to be RUNNERS (c may be 0);", BookEdges::oddsOutside);
        Doc.promise(17, "SAME;", BookEdges::oddsSame);
        Doc.promise(17, "GONE;", BookEdges::oddsGone);
        Doc.promise(17, "STATE: the RACE is OFFICIAL.", BookEdges::oddsState);
    }

    /** RACE 1 of n RUNNERS, of which the greatest numbers are OUT, with 90 CARRIED IN to its ORDER. */
    private static ToteHouse sold(int n, int out) {
        ToteHouse x = new ToteHouse();
        x.race(3);
        x.pool(0, 3, 100, 10);
        x.sell(0, 3, 3, 2, 1, 10);
        x.race(n);
        for (int kind = 0; kind < 4; kind++) {
            x.pool(1, kind, 50 * kind, 20 * (kind + 1));
        }
        Given.run(x, 0, 1, 2, 3);
        for (int a = 1; a <= n - out; a++) {
            int b = a % (n - out) + 1;
            int c = b % (n - out) + 1;
            x.sell(0, 4, a, 0, 0, 2 * a);
            x.sell(1, 5, a, 0, 0, 40 / a);
            if (a != b) {
                x.sell(2, 6, a, b, 0, 7);
            }
            if (n - out > 2) {
                x.sell(3, 7, a, b, c, a);
                x.sell(3, 7, b, a, c, 1);
            }
        }
        x.cancel(1);
        Given.without(x, 1, n - out + 1, n);
        return x;
    }

    private static ToteHouse sold(int n, int out, int a, int b, int c) {
        ToteHouse x = sold(n, out);
        x.off(1);
        x.place(1, a, 1);
        x.place(1, b, 2);
        if (c != 0) {
            x.place(1, c, 3);
        }
        x.official(1);
        return x;
    }

    private static void oddsAreTheDividends() {
        int[][] fields = {{12, 0}, {8, 0}, {8, 1}, {7, 0}, {5, 0}, {6, 2}, {4, 0}, {3, 0}, {12, 9}};
        int[][] rows = {{1, 2, 3}, {2, 1, 3}, {3, 2, 1}, {2, 3, 1}};
        for (int[] field : fields) {
            ToteHouse x = sold(field[0], field[1]);
            for (int[] r : rows) {
                ToteHouse y = sold(field[0], field[1], r[0], r[1], r[2]);
                due(y.raceAt(1, 0), 2);
                due(x.odds(4, r[0], r[1], r[2]), y.dividend(4, r[0], 0, 0));
                due(x.odds(5, r[0], r[1], r[2]), y.dividend(5, r[0], 0, 0));
                due(x.odds(6, r[0], r[1], r[2]), y.dividend(6, r[0], r[1], 0));
                due(x.odds(7, r[0], r[1], r[2]), y.dividend(7, r[0], r[1], r[2]));
            }
        }
        // What was CARRIED IN is in them.
        due(sold(3, 0).raceAt(1, 4), 90);
    }

    private static void oddsOfTwoAlone() {
        // With two RUNNERS left the RACE can become OFFICIAL so.
        ToteHouse x = sold(4, 2);
        ToteHouse y = sold(4, 2, 2, 1, 0);
        due(y.raceAt(1, 0), 2);
        due(x.odds(4, 2, 1, 0), y.dividend(4, 2, 0, 0));
        due(x.odds(6, 2, 1, 0), y.dividend(6, 2, 1, 0));
        due(x.odds(6, 2, 1, 0) > 0 ? 1 : 0, 1);
        due(x.odds(5, 2, 1, 0), 0);
        due(x.odds(7, 2, 1, 0), 0);
        // With more the third has no POSITION: no ORDER fits, and PLACE has two TAKERS at most.
        ToteHouse z = Given.race(8);
        z.sell(0, 1, 1, 0, 0, 1);
        z.sell(0, 1, 2, 0, 0, 1);
        z.sell(0, 1, 3, 0, 0, 4);
        z.sell(0, 3, 1, 2, 3, 1);
        due(z.odds(1, 1, 2, 0), 30);
        due(z.odds(1, 1, 2, 3), 10);
        due(z.odds(3, 1, 2, 0), 0);
        due(z.odds(3, 1, 2, 3), 10);
    }

    private static void oddsChangeNothing() {
        ToteHouse x = Given.tickets();
        x.worst(0);
        long before = x.digest();
        int most = x.worstDue();
        x.odds(0, 2, 1, 3);
        x.odds(1, 2, 1, 3);
        x.odds(2, 2, 1, 0);
        x.odds(3, 3, 2, 1);
        due(x.digest(), before);
        due(x.worstDue(), most);
        due(x.raceAt(0, 11), 0);
        x.off(0);
        x.place(0, 3, 1);
        x.odds(0, 1, 2, 3);
        due(x.raceAt(0, 11), 0);
        due(x.raceAt(0, 13), 1);
    }

    private static void oddsUnknown() {
        due(new ToteHouse().odds(0, 1, 2, 3), UNKNOWN);
        due(new ToteHouse().odds(48, 1, 2, 0), UNKNOWN);
        ToteHouse x = Given.twoRaces();
        due(x.odds(48, 1, 2, 0), UNKNOWN);
        due(x.odds(48, 1, 1, 0), UNKNOWN);
        for (int pool : new int[] {-1, 8, 47, 49}) {
            due(x.odds(pool, 1, 2, 3), UNKNOWN);
        }
        for (int pool : Given.WILD) {
            due(x.odds(pool, 1, 2, 3), UNKNOWN);
        }
    }

    private static void oddsOutside() {
        ToteHouse x = Given.twoRaces();
        for (int pool = 0; pool < 4; pool++) {
            int[][] rows = {{0, 1, 2}, {1, 0, 2}, {7, 1, 2}, {1, 7, 2}, {1, 2, 7}, {-1, 1, 2}, {1, -1, 2}, {1, 2, -1},
                {0, 0, 0}, {1, 0, 0}, {0, 1, 0}};
            for (int[] r : rows) {
                due(x.odds(pool, r[0], r[1], r[2]), OUTSIDE);
            }
            for (int wild : Given.WILD) {
                due(x.odds(pool, wild, 1, 2), OUTSIDE);
                due(x.odds(pool, 1, wild, 2), OUTSIDE);
                due(x.odds(pool, 1, 2, wild), OUTSIDE);
            }
            due(x.odds(pool, 6, 5, 4), 0);
            due(x.odds(pool, 6, 5, 0), 0);
        }
        // The RUNNERS of that RACE alone.
        due(x.odds(4, 5, 1, 2), OUTSIDE);
    }

    private static void oddsSame() {
        ToteHouse x = Given.twoRaces();
        for (int pool = 0; pool < 4; pool++) {
            due(x.odds(pool, 1, 1, 0), SAME);
            due(x.odds(pool, 1, 1, 2), SAME);
            due(x.odds(pool, 1, 2, 1), SAME);
            due(x.odds(pool, 2, 1, 1), SAME);
            due(x.odds(pool, 6, 6, 6), SAME);
        }
    }

    private static void oddsGone() {
        ToteHouse x = Given.twoRaces();
        x.scratch(0, 3);
        for (int pool = 0; pool < 4; pool++) {
            due(x.odds(pool, 3, 1, 2), GONE);
            due(x.odds(pool, 1, 3, 2), GONE);
            due(x.odds(pool, 1, 2, 3), GONE);
            due(x.odds(pool, 3, 1, 0), GONE);
            due(x.odds(pool, 1, 3, 0), GONE);
            due(x.odds(pool, 1, 2, 0), 0);
        }
    }

    private static void oddsState() {
        ToteHouse x = Given.tickets();
        due(x.odds(0, 1, 2, 3), 10);
        x.off(0);
        due(x.odds(0, 1, 2, 3), 10);
        Given.run(x, 0, 1, 2, 3);
        for (int pool = 0; pool < 4; pool++) {
            due(x.odds(pool, 1, 2, 3), STATE);
            due(x.odds(pool, 1, 2, 0), STATE);
        }
        due(x.odds(4, 1, 2, 3), 0);
    }

    private static void books() {
        Doc.promise(18, "Of a POOL, in cents: 0 STAKES of all TICKETS that were sold, 1 of those CANCELLED, 2 of"
                + " those REFUNDED,", BookEdges::bookOfStakes);
        Doc.promise(18, "3 DEDUCTED, 4 CARRIED IN, 5 CARRIED OUT, 6 BREAKAGE, 7 COST, 8 what is DUE to all that were"
                + " LIVE as it was SETTLED, 9 what was PAID; 10 1 if it is SETTLED, else 0.",
                BookEdges::bookOfSettled);
        Doc.promise(18, "3, 5 to 8: 0 before.", BookEdges::bookBefore);
        Doc.promise(18, "UNKNOWN;", BookEdges::bookUnknown);
        Doc.promise(18, "OUTSIDE.", BookEdges::bookOutside);
    }

    private static void figures(ToteHouse x, int pool, int... figures) {
        for (int what = 0; what < figures.length; what++) {
            due(x.book(pool, what), figures[what]);
        }
    }

    private static void bookOfStakes() {
        ToteHouse x = Given.races(1);
        x.pool(0, 0, 0, 1000);
        for (int i = 0; i < 200; i++) {
            x.sell(0, 0, 1 + i % 2, 0, 0, 1000);
        }
        figures(x, 0, 200000000, 0, 0);
        for (int t = 0; t < 200; t += 4) {
            x.cancel(t);
        }
        figures(x, 0, 200000000, 50000000, 0);
        x.scratch(0, 1);
        figures(x, 0, 200000000, 50000000, 50000000);
        x.scratch(0, 2);
        figures(x, 0, 200000000, 50000000, 150000000);
    }

    private static void bookOfSettled() {
        ToteHouse x = new ToteHouse();
        x.race(5);
        x.pool(0, 1, 500, 30);
        x.pool(0, 3, 100, 10);
        x.race(5);
        x.pool(1, 3, 100, 10);
        x.sell(0, 1, 1, 0, 0, 3);
        x.sell(0, 3, 3, 2, 1, 11);
        x.sell(0, 7, 1, 2, 3, 3);
        x.sell(0, 7, 1, 2, 4, 2);
        Given.run(x, 0, 1, 2, 3);
        figures(x, 1, 90, 0, 0, 45, 0, 0, 0, 45, 90, 0, 1);
        figures(x, 3, 110, 0, 0, 11, 0, 99, 0, 0, 0, 0, 1);
        x.pay(0);
        figures(x, 1, 90, 0, 0, 45, 0, 0, 0, 45, 90, 90, 1);
        Given.run(x, 1, 1, 2, 3);
        // 50 less 5 and 99 CARRIED IN: 144 by 3 UNITS is 48, cut to 40.
        figures(x, 7, 50, 0, 0, 5, 99, 0, 24, 0, 120, 0, 1);
        x.pay(3);
        due(x.book(7, 9), 0);
        x.pay(2);
        due(x.book(7, 9), 120);
        due(x.book(7, 8), 120);
    }

    private static void bookBefore() {
        ToteHouse x = Given.tickets();
        x.sell(0, 0, 2, 0, 0, 4);
        x.cancel(5);
        x.off(0);
        x.place(0, 1, 1);
        for (int pool : new int[] {0, 1, 2, 3, 48}) {
            for (int what = 3; what <= 10; what++) {
                due(x.book(pool, what), 0);
            }
        }
        // THE DOUBLE, when one of its RACES is OFFICIAL.
        Given.run(x, 0, 1, 2, 3);
        for (int what = 3; what <= 10; what++) {
            due(x.book(48, what), 0);
        }
        // 4 is there before: what was CARRIED IN.
        ToteHouse y = Given.races(2);
        y.pool(0, 3, 0, 10);
        y.pool(1, 3, 0, 10);
        y.sell(0, 3, 1, 2, 3, 1);
        Given.run(y, 0, 3, 2, 1);
        figures(y, 7, 0, 0, 0, 0, 10, 0, 0, 0, 0, 0, 0);
    }

    private static void bookUnknown() {
        due(new ToteHouse().book(0, 0), UNKNOWN);
        ToteHouse x = Given.race(3);
        for (int pool : new int[] {-1, 4, 47, 48, 49}) {
            due(x.book(pool, 0), UNKNOWN);
        }
        for (int pool : Given.WILD) {
            due(x.book(pool, 0), UNKNOWN);
        }
    }

    private static void bookOutside() {
        ToteHouse x = Given.race(3);
        due(x.book(0, -1), OUTSIDE);
        due(x.book(0, 11), OUTSIDE);
        for (int what : Given.WILD) {
            due(x.book(0, what), OUTSIDE);
        }
        due(x.book(0, 10), 0);
    }

    private static void sums() {
        Doc.promise(19, "THE REST.", BookEdges::restAddsUp);
        Doc.promise(20, "What is DUE to LIVE TICKETS of SETTLED POOLS, together.", BookEdges::unclaimedAddsUp);
    }

    private static void restAddsUp() {
        ToteHouse x = new ToteHouse();
        for (int race = 0; race < 12; race++) {
            x.race(3);
            x.pool(race, 3, 0, 1000);
            x.sell(0, 4 * race + 3, 1, 2, 3, 1000);
        }
        // From the last to the first there is never one behind that is not OFFICIAL.
        for (int race = 11; race >= 0; race--) {
            Given.run(x, race, 3, 2, 1);
            due(x.rest(), 1000000 * (12 - race));
        }
        ToteHouse y = Given.race(3);
        y.sell(0, 3, 1, 2, 3, 1);
        Given.run(y, 0, 1, 2, 3);
        due(y.rest(), 0);
    }

    private static void unclaimedAddsUp() {
        due(new ToteHouse().unclaimed(), 0);
        ToteHouse x = Given.race(2);
        for (int i = 0; i < 200; i++) {
            x.sell(0, i % 2 == 0 ? 0 : 2, 1, i % 2 == 0 ? 0 : 2, 0, 1000);
        }
        x.cancel(0);
        due(x.unclaimed(), 0);
        Given.run(x, 0, 1, 2);
        due(x.unclaimed(), 1990000);
        x.pay(199);
        due(x.unclaimed(), 1980000);
        // Those that get nothing, and those REFUNDED, are nothing of it.
        ToteHouse y = Given.races(1);
        y.pool(0, 0, 0, 10);
        y.pool(0, 2, 0, 10);
        y.sell(0, 0, 1, 0, 0, 5);
        y.sell(0, 0, 2, 0, 0, 5);
        y.sell(0, 2, 3, 4, 0, 5);
        Given.run(y, 0, 1, 2, 3);
        due(y.unclaimed(), 100);
        due(y.pay(1), 0);
        due(y.unclaimed(), 100);
        due(y.pay(0), 100);
        due(y.unclaimed(), 0);
    }

    private static void worsts() {
        Doc.promise(21, "Of all ROWS of three RUNNERS that are not OUT (all different; of two, if there are but two),"
                + " by their numbers, the first one for which most would be DUE by all POOLS of the RACE together, if"
                + " it became OFFICIAL so now: 10000 a + 100 b + c.", BookEdges::worstIsTheMost);
        Doc.promise(21, "by their numbers, the first one", BookEdges::worstIsTheFirst);
        Doc.promise(21, "of two, if there are but two", BookEdges::worstOfTwo);
        Doc.promise(21, "for which most would be DUE", BookEdges::worstOfPlaceAlone);
        Doc.promise(21, "by all POOLS of the RACE together", BookEdges::worstWithoutTheDouble);
        Doc.promise(21, "UNKNOWN;", BookEdges::worstUnknown);
        Doc.promise(21, "STATE: it is OFFICIAL;", BookEdges::worstState);
        Doc.promise(21, "GONE: fewer than two RUNNERS are not OUT.", BookEdges::worstGone);
        Doc.promise(22, "How much that was, of the latest worst() that was not refused (0 before).",
                BookEdges::worstDueOfTheLatest);
    }

    private static int dueIf(int n, int out, int a, int b, int c) {
        ToteHouse x = sold(n, out, a, b, c);
        due(x.raceAt(1, 0), 2);
        return x.book(4, 8) + x.book(5, 8) + x.book(6, 8) + x.book(7, 8);
    }

    /** Each ROW is really run, and the first with most is the one that is told. */
    private static void worstIsTheMost() {
        int[][] fields = {{3, 0}, {4, 0}, {5, 0}, {6, 1}, {8, 0}, {9, 1}};
        for (int[] field : fields) {
            int in = field[0] - field[1];
            int most = -1;
            int row = 0;
            for (int a = 1; a <= in; a++) {
                for (int b = 1; b <= in; b++) {
                    for (int c = 1; c <= in; c++) {
                        if (a != b && a != c && b != c) {
                            int would = dueIf(field[0], field[1], a, b, c);
                            row = would > most ? 10000 * a + 100 * b + c : row;
                            most = Math.max(most, would);
                        }
                    }
                }
            }
            ToteHouse x = sold(field[0], field[1]);
            long before = x.digest();
            due(x.worst(1), row);
            due(x.worstDue(), most);
            due(x.digest(), before);
        }
    }

    /** PLACE alone, of n RUNNERS, with UNITS for RUNNERS 1, 2, ..; and what each ROW would have, really run. */
    private static ToteHouse places(int n, int... units) {
        ToteHouse x = new ToteHouse();
        x.race(n);
        x.pool(0, 1, 200, 10);
        for (int i = 0; i < units.length; i++) {
            if (units[i] > 0) {
                x.sell(0, 1, i + 1, 0, 0, units[i]);
            }
        }
        return x;
    }

    private static void worstOfPlaceAlone() {
        int[][] sold = {{1}, {0, 1}, {0, 0, 0, 0, 1}, {1, 1}, {0, 2, 2}, {3, 0, 0, 3}, {1, 2, 3}, {1, 1, 1, 1, 1},
            {9, 1, 0, 0, 1}, {0, 5, 1, 4}};
        for (int[] units : sold) {
            for (int n : new int[] {5, 8}) {
                int most = -1;
                int row = 0;
                for (int code = 0; code < n * n * n; code++) {
                    int a = 1 + code / n / n;
                    int b = 1 + code / n % n;
                    int c = 1 + code % n;
                    if (a != b && a != c && b != c) {
                        ToteHouse x = places(n, units);
                        int odds = x.odds(1, a, b, c);
                        x.off(0);
                        x.place(0, a, 1);
                        x.place(0, b, 2);
                        x.place(0, c, 3);
                        x.official(0);
                        due(odds, x.dividend(1, a, 0, 0));
                        row = x.book(1, 8) > most ? 10000 * a + 100 * b + c : row;
                        most = Math.max(most, x.book(1, 8));
                    }
                }
                ToteHouse y = places(n, units);
                due(y.worst(0), row);
                due(y.worstDue(), most);
            }
        }
    }

    private static void worstIsTheFirst() {
        due(Given.race(12).worst(0), 10203);
        due(Given.race(3).worst(0), 10203);
        ToteHouse x = Given.race(12);
        Given.without(x, 0, 1, 9);
        due(x.worst(0), 101112);
        x.sell(0, 3, 12, 11, 10, 1);
        due(x.worst(0), 121110);
        // As much for one ahead of it.
        x.sell(0, 0, 11, 0, 0, 1);
        due(x.worst(0), 111012);
        due(x.worstDue(), 10);
        due(Given.races(1).worst(0), 10203);
    }

    private static void worstOfTwo() {
        ToteHouse x = Given.race(12);
        x.sell(0, 0, 12, 0, 0, 1);
        Given.without(x, 0, 2, 10);
        due(x.worst(0), 120111);
        Given.without(x, 0, 11, 11);
        due(x.worst(0), 120100);
        due(x.worstDue(), 10);
        due(Given.race(2).worst(0), 10200);
        // What an ORDER, a PLACE have is not DUE then: they are VOID.
        ToteHouse y = Given.race(6);
        y.sell(0, 1, 2, 0, 0, 100);
        Given.without(y, 0, 3, 6);
        due(y.worst(0), 10200);
        due(y.worstDue(), 0);
    }

    private static void worstWithoutTheDouble() {
        ToteHouse x = Given.twoRaces();
        x.sell(0, 48, 6, 4, 0, 1000);
        x.sell(0, 4, 3, 0, 0, 1);
        due(x.worst(0), 10203);
        due(x.worstDue(), 0);
        Given.run(x, 0, 0, 0, 0, 3, 2, 1);
        due(x.worst(1), 30102);
        due(x.worstDue(), 10);
    }

    private static void worstUnknown() {
        due(new ToteHouse().worst(0), UNKNOWN);
        ToteHouse x = Given.races(12);
        due(x.worst(12), UNKNOWN);
        for (int race : Given.WILD) {
            due(x.worst(race), UNKNOWN);
        }
        due(x.worst(11), 10203);
    }

    private static void worstState() {
        ToteHouse x = Given.race(3);
        x.off(0);
        due(x.worst(0), 10203);
        Given.run(x, 0, 1, 2, 3);
        due(x.worst(0), STATE);
    }

    private static void worstGone() {
        ToteHouse x = Given.race(3);
        x.scratch(0, 2);
        due(x.worst(0), 10300);
        x.scratch(0, 1);
        due(x.worst(0), GONE);
        x.scratch(0, 3);
        due(x.worst(0), GONE);
        x.off(0);
        due(x.worst(0), GONE);
    }

    private static void worstDueOfTheLatest() {
        ToteHouse x = Given.races(2);
        due(x.worstDue(), 0);
        x.worst(9);
        due(x.worstDue(), 0);
        x.pool(0, 0, 0, 1000);
        for (int i = 0; i < 200; i++) {
            x.sell(0, 0, 3, 0, 0, 1000);
        }
        due(x.worst(0), 30102);
        due(x.worstDue(), 200000000);
        x.worst(9);
        due(x.worstDue(), 200000000);
        Given.run(x, 0, 1, 2, 3);
        due(x.worst(0), STATE);
        due(x.worstDue(), 200000000);
        due(x.worst(1), 10203);
        due(x.worstDue(), 0);
        Given.without(x, 1, 2, 4);
        due(x.worst(1), GONE);
        due(x.worstDue(), 0);
    }

    private static void premiums() {
        Doc.promise(23, "What a WINDOW has of all that was DEDUCTED: that times the UNITS of its TICKETS (of any"
                + " state) by UNITS of all, cut.", BookEdges::premiumOfAny);
        Doc.promise(23, "UNKNOWN;", BookEdges::premiumUnknown);
        Doc.promise(23, "ZERO: no TICKET was sold.", BookEdges::premiumZero);
    }

    private static void premiumOfAny() {
        ToteHouse x = Given.races(1);
        x.pool(0, 0, 500, 1000);
        x.pool(0, 2, 500, 10);
        for (int i = 0; i < 198; i++) {
            x.sell(i == 0 ? 0 : 5, 0, 1, 0, 0, 1000);
        }
        x.sell(1, 2, 3, 4, 0, 1000);
        x.sell(2, 0, 4, 0, 0, 1000);
        x.cancel(199);
        due(x.premium(0), 0);
        Given.run(x, 0, 1, 2, 3);
        // 99000000 DEDUCTED, by 200 parts; that of PAIR, REFUNDED, and the CANCELLED one count as UNITS.
        due(x.count(5), 99000000);
        due(x.premium(0), 495000);
        due(x.premium(5), 97515000);
        due(x.premium(1), 495000);
        due(x.premium(2), 495000);
        due(x.premium(3), 0);
        x.pay(0);
        due(x.premium(0), 495000);
        // Cut: 5 by 3 UNITS.
        ToteHouse y = Given.races(1);
        y.pool(0, 0, 167, 10);
        y.sell(0, 0, 1, 0, 0, 1);
        y.sell(1, 0, 1, 0, 0, 2);
        Given.run(y, 0, 1, 2, 3);
        due(y.count(5), 5);
        due(y.premium(0), 1);
        due(y.premium(1), 3);
    }

    private static void premiumUnknown() {
        ToteHouse x = new ToteHouse();
        due(x.premium(-1), UNKNOWN);
        due(x.premium(6), UNKNOWN);
        for (int window : Given.WILD) {
            due(x.premium(window), UNKNOWN);
        }
        due(x.finding(), 0);
    }

    private static void premiumZero() {
        ToteHouse x = Given.race(3);
        for (int window = 0; window < 6; window++) {
            due(x.premium(window), ZERO);
        }
        due(x.finding(), 6);
        due(x.count(16), 6);
        x.sell(0, 0, 1, 0, 0, 1);
        due(x.premium(5), 0);
        x.cancel(0);
        due(x.premium(0), 0);
        due(x.count(16), 6);
    }
}
