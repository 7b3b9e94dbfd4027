/** Promises 11 to 16, sentence by sentence. */
final class TicketEdges {
    private static final int UNKNOWN = ToteHouse.UNKNOWN, OUTSIDE = ToteHouse.OUTSIDE, SAME = ToteHouse.SAME,
            GONE = ToteHouse.GONE, STATE = ToteHouse.STATE, FULL = ToteHouse.FULL;

    private TicketEdges() {
    }

    private static void due(long got, long want) {
        Check.due(got, want);
    }

    static void all() {
        sales();
        cancels();
        payments();
        ticketLooks();
        unitLooks();
        dividends();
    }

    private static void sales() {
        Doc.promise(11, "A TICKET is sold: its number.", TicketEdges::sold);
        Doc.promise(11, "UNKNOWN: the WINDOW, the POOL;", TicketEdges::sellUnknown);
        Doc.promise(11, "OUTSIDE: UNITS, RUNNERS;", TicketEdges::sellOutside);
        Doc.promise(11, "SAME: two RUNNERS of PAIR, ORDER are one;", TicketEdges::sellSame);
        Doc.promise(11, "GONE: one is OUT;", TicketEdges::sellGone);
        Doc.promise(11, "STATE: a RACE of the POOL is not SELLING;", TicketEdges::sellState);
        Doc.promise(11, "FULL.", TicketEdges::sellFull);
    }

    private static void sold() {
        ToteHouse x = Given.twoRaces();
        due(x.sell(0, 0, 1, 0, 0, 1), 0);
        due(x.sell(5, 0, 6, 0, 0, 1000), 1);
        due(x.sell(0, 1, 6, 0, 0, 1), 2);
        due(x.sell(0, 2, 1, 6, 0, 1), 3);
        due(x.sell(0, 2, 6, 1, 0, 1), 4);
        due(x.sell(0, 3, 6, 1, 5, 1), 5);
        due(x.sell(0, 3, 4, 5, 6, 1), 6);
        due(x.sell(0, 48, 1, 1, 0, 1), 7);
        due(x.sell(0, 48, 6, 4, 0, 1000), 8);
        due(x.count(2), 9);
        due(x.count(3), 9);
        due(x.book(0, 0), 10010);
    }

    private static void sellUnknown() {
        due(new ToteHouse().sell(0, 0, 1, 0, 0, 1), UNKNOWN);
        ToteHouse x = Given.race(12);
        due(x.sell(-1, 0, 1, 0, 0, 1), UNKNOWN);
        due(x.sell(6, 0, 1, 0, 0, 1), UNKNOWN);
        for (int pool : new int[] {-1, 4, 47, 48, 49, 50}) {
            due(x.sell(0, pool, 1, 0, 0, 1), UNKNOWN);
        }
        for (int wild : Given.WILD) {
            due(x.sell(wild, 0, 1, 0, 0, 1), UNKNOWN);
            due(x.sell(0, wild, 1, 0, 0, 1), UNKNOWN);
        }
        due(x.count(2), 0);
    }

    private static void sellOutside() {
        ToteHouse x = Given.twoRaces();
        for (int units : new int[] {0, -1, 1001}) {
            due(x.sell(0, 0, 1, 0, 0, units), OUTSIDE);
        }
        int[][] rows = {{0, 0, 0, 0}, {0, 7, 0, 0}, {0, 1, 1, 0}, {0, 1, 0, 1}, {1, 0, 0, 0}, {1, 7, 0, 0},
            {1, 1, 2, 0}, {1, 1, 0, 2}, {2, 0, 1, 0}, {2, 1, 0, 0}, {2, 7, 1, 0}, {2, 1, 7, 0}, {2, 1, 2, 3},
            {3, 0, 1, 2}, {3, 1, 0, 2}, {3, 1, 2, 0}, {3, 7, 1, 2}, {3, 1, 7, 2}, {3, 1, 2, 7}, {48, 0, 1, 0},
            {48, 1, 0, 0}, {48, 7, 1, 0}, {48, 1, 5, 0}, {48, 1, 1, 1}};
        for (int[] row : rows) {
            due(x.sell(0, row[0], row[1], row[2], row[3], 1), OUTSIDE);
        }
        due(x.count(2), 0);
        for (int wild : Given.WILD) {
            ToteHouse y = Given.twoRaces();
            due(y.sell(0, 0, 1, 0, 0, wild), OUTSIDE);
            for (int pool : new int[] {0, 1, 2, 3, 48}) {
                int b = pool < 2 ? 0 : 2;
                int c = pool == 3 ? 3 : 0;
                due(y.sell(0, pool, wild, b, c, 1), OUTSIDE);
                due(y.sell(0, pool, 1, wild, c, 1), OUTSIDE);
                due(y.sell(0, pool, 1, b, wild, 1), OUTSIDE);
            }
            due(y.count(2), 0);
        }
    }

    private static void sellSame() {
        ToteHouse x = Given.twoRaces();
        for (int i = 1; i <= 6; i++) {
            int other = i % 6 + 1;
            due(x.sell(0, 2, i, i, 0, 1), SAME);
            due(x.sell(0, 3, i, i, other, 1), SAME);
            due(x.sell(0, 3, i, other, i, 1), SAME);
            due(x.sell(0, 3, other, i, i, 1), SAME);
            due(x.sell(0, 3, i, i, i, 1), SAME);
        }
        due(x.count(2), 0);
        // Of THE DOUBLE they are of two RACES.
        due(x.sell(0, 48, 4, 4, 0, 1), 0);
    }

    private static void sellGone() {
        ToteHouse x = Given.twoRaces();
        x.scratch(0, 1);
        x.scratch(1, 4);
        int[][] rows = {{0, 1, 0, 0}, {1, 1, 0, 0}, {2, 1, 2, 0}, {2, 2, 1, 0}, {3, 1, 2, 3}, {3, 2, 1, 3},
            {3, 2, 3, 1}, {48, 1, 1, 0}, {48, 2, 4, 0}, {48, 1, 4, 0}};
        for (int[] row : rows) {
            due(x.sell(0, row[0], row[1], row[2], row[3], 1), GONE);
        }
        due(x.count(2), 0);
        // RUNNER 4 of the FIRST and 1 of the SECOND are not OUT.
        due(x.sell(0, 48, 4, 1, 0, 1), 0);
    }

    private static void sellState() {
        for (int race = 0; race < 2; race++) {
            ToteHouse x = Given.twoRaces();
            x.off(race);
            for (int turn = 0; turn < 2; turn++) {
                due(x.sell(0, 4 * race, 1, 0, 0, 1), STATE);
                due(x.sell(0, 4 * race + 1, 1, 0, 0, 1), STATE);
                due(x.sell(0, 4 * race + 2, 1, 2, 0, 1), STATE);
                due(x.sell(0, 4 * race + 3, 1, 2, 3, 1), STATE);
                due(x.sell(0, 48, 1, 1, 0, 1), STATE);
                Given.run(x, race, 1, 2, 3);
            }
            due(x.count(2), 0);
            due(x.sell(0, 4 - 4 * race, 1, 0, 0, 1), 0);
        }
    }

    private static void sellFull() {
        ToteHouse x = Given.race(3);
        for (int i = 0; i < 199; i++) {
            x.sell(0, 0, 1, 0, 0, 1);
        }
        due(x.sell(5, 3, 3, 2, 1, 1000), 199);
        due(x.sell(5, 3, 3, 2, 1, 1000), FULL);
        due(x.sell(0, 0, 1, 0, 0, 1), FULL);
        // Those CANCELLED, REFUNDED are still of the two hundred.
        x.cancel(0);
        x.scratch(0, 3);
        due(x.sell(0, 0, 1, 0, 0, 1), FULL);
        due(x.count(2), 200);
        due(x.ticket(199, 4), 1000);
        due(x.book(0, 0), 1990);
        due(x.book(3, 0), 10000);
    }

    private static void cancels() {
        Doc.promise(12, "A TICKET is CANCELLED: its STAKE.", TicketEdges::cancelled);
        Doc.promise(12, "UNKNOWN;", TicketEdges::cancelUnknown);
        Doc.promise(12, "STATE: it is not LIVE, or the RACE (of THE DOUBLE the FIRST) is not SELLING.",
                TicketEdges::cancelState);
    }

    private static void cancelled() {
        ToteHouse x = Given.races(1);
        x.pool(0, 0, 500, 1000);
        x.pool(0, 1, 0, 10);
        x.sell(0, 0, 1, 0, 0, 1000);
        x.sell(0, 1, 1, 0, 0, 1);
        due(x.cancel(0), 1000000);
        due(x.cancel(1), 10);
        due(x.ticket(0, 5), 1);
        due(x.book(0, 1), 1000000);
        due(x.units(0, 1, 0, 0), 0);
        due(x.count(3), 0);
    }

    private static void cancelUnknown() {
        due(new ToteHouse().cancel(0), UNKNOWN);
        ToteHouse x = Given.tickets();
        due(x.cancel(5), UNKNOWN);
        due(x.cancel(199), UNKNOWN);
        due(x.cancel(200), UNKNOWN);
        for (int ticket : Given.WILD) {
            due(x.cancel(ticket), UNKNOWN);
        }
        due(x.count(3), 5);
        due(x.cancel(4), 40);
    }

    private static void cancelState() {
        ToteHouse x = Given.tickets();
        x.cancel(0);
        due(x.cancel(0), STATE);
        x.scratch(0, 3);
        due(x.ticket(3, 5), 2);
        due(x.cancel(3), STATE);
        x.off(0);
        due(x.cancel(1), STATE);
        due(x.cancel(4), STATE);
        Given.run(x, 0, 1, 2, 0, 3);
        due(x.cancel(1), STATE);
        x.pay(1);
        due(x.cancel(1), STATE);
        due(x.cancel(4), STATE);
        due(x.book(0, 1), 40);
        // The SECOND RACE of THE DOUBLE does not count, whatever it is.
        ToteHouse y = Given.tickets();
        y.sell(0, 48, 2, 2, 0, 3);
        y.off(1);
        due(y.cancel(4), 40);
        Given.run(y, 1, 1, 2, 3);
        due(y.raceAt(1, 0), 2);
        due(y.cancel(5), 30);
    }

    private static void payments() {
        Doc.promise(13, "A TICKET is PAID: what is DUE.", TicketEdges::paid);
        Doc.promise(13, "UNKNOWN;", TicketEdges::payUnknown);
        Doc.promise(13, "STATE: it is not LIVE, or its POOL is not SETTLED.", TicketEdges::payState);
    }

    private static void paid() {
        ToteHouse x = Given.races(1);
        x.pool(0, 0, 0, 1000);
        x.sell(0, 0, 1, 0, 0, 1000);
        for (int i = 0; i < 198; i++) {
            x.sell(0, 0, 2, 0, 0, 1000);
        }
        x.sell(0, 0, 1, 0, 0, 1000);
        Given.run(x, 0, 1, 2, 3);
        due(x.pay(0), 100000000);
        due(x.ticket(0, 5), 3);
        due(x.pay(199), 100000000);
        due(x.pay(1), 0);
        due(x.ticket(1, 5), 3);
        due(x.book(0, 9), 200000000);
        due(x.count(3), 197);
    }

    private static void payUnknown() {
        due(new ToteHouse().pay(0), UNKNOWN);
        ToteHouse x = Given.tickets();
        Given.run(x, 0, 1, 2, 3);
        due(x.pay(5), UNKNOWN);
        for (int ticket : Given.WILD) {
            due(x.pay(ticket), UNKNOWN);
        }
        due(x.unclaimed(), 160);
    }

    private static void payState() {
        ToteHouse x = Given.tickets();
        x.sell(0, 0, 2, 0, 0, 1);
        x.sell(0, 0, 1, 0, 0, 1);
        due(x.pay(1), STATE);
        x.cancel(0);
        x.scratch(0, 2);
        x.off(0);
        due(x.pay(1), STATE);
        Given.run(x, 0, 1, 0, 2, 3);
        due(x.ticket(0, 5), 1);
        due(x.pay(0), STATE);
        due(x.ticket(5, 5), 2);
        due(x.pay(5), STATE);
        due(x.pay(1), 40);
        due(x.pay(1), STATE);
        due(x.book(1, 9), 40);
        // THE DOUBLE is not SETTLED before both RACES are OFFICIAL.
        due(x.pay(4), STATE);
        x.off(1);
        due(x.pay(4), STATE);
        Given.run(x, 1, 1, 2, 3);
        due(x.pay(4), 40);
        due(x.pay(4), STATE);
    }

    private static void ticketLooks() {
        Doc.promise(14, "Of a TICKET: 0 its POOL, 1, 2, 3 a, b, c, 4 UNITS, 5 its state, 6 the WINDOW,",
                TicketEdges::ticketTold);
        Doc.promise(14, "7 what is DUE (0 when its POOL is not SETTLED, or it is CANCELLED, REFUNDED).",
                TicketEdges::ticketDue);
        Doc.promise(14, "UNKNOWN;", TicketEdges::ticketUnknown);
        Doc.promise(14, "OUTSIDE.", TicketEdges::ticketOutside);
    }

    private static void ticketTold() {
        ToteHouse x = Given.twoRaces();
        int[][] sold = {{0, 6, 0, 0, 1, 0}, {1, 1, 0, 0, 1000, 5}, {2, 1, 6, 0, 2, 1}, {3, 6, 1, 5, 3, 2},
            {48, 6, 4, 0, 4, 3}, {7, 4, 3, 2, 5, 4}};
        for (int[] s : sold) {
            x.sell(s[5], s[0], s[1], s[2], s[3], s[4]);
        }
        for (int t = 0; t < sold.length; t++) {
            for (int what = 0; what <= 4; what++) {
                due(x.ticket(t, what), sold[t][what]);
            }
            due(x.ticket(t, 5), 0);
            due(x.ticket(t, 6), sold[t][5]);
        }
    }

    private static void ticketDue() {
        ToteHouse x = Given.races(1);
        x.pool(0, 0, 0, 10);
        x.sell(0, 0, 1, 0, 0, 1);
        x.sell(0, 0, 1, 0, 0, 3);
        x.sell(0, 0, 2, 0, 0, 4);
        x.sell(0, 0, 3, 0, 0, 4);
        x.cancel(1);
        x.scratch(0, 3);
        x.off(0);
        for (int t = 0; t < 4; t++) {
            due(x.ticket(t, 7), 0);
        }
        Given.run(x, 0, 1, 2, 0, 3);
        due(x.ticket(0, 7), 50);
        due(x.ticket(1, 7), 0);
        due(x.ticket(2, 7), 0);
        due(x.ticket(3, 7), 0);
        x.pay(0);
        due(x.ticket(0, 7), 50);
        // REFUNDED as the POOL was SETTLED: none had the one that won.
        ToteHouse y = Given.races(1);
        y.pool(0, 0, 0, 10);
        y.sell(0, 0, 1, 0, 0, 1);
        Given.run(y, 0, 2, 1, 3);
        due(y.ticket(0, 5), 2);
        due(y.ticket(0, 7), 0);
    }

    private static void ticketUnknown() {
        due(new ToteHouse().ticket(0, 0), UNKNOWN);
        ToteHouse x = Given.tickets();
        due(x.ticket(4, 0), 48);
        due(x.ticket(5, 0), UNKNOWN);
        for (int ticket : Given.WILD) {
            due(x.ticket(ticket, 0), UNKNOWN);
        }
    }

    private static void ticketOutside() {
        ToteHouse x = Given.tickets();
        due(x.ticket(0, -1), OUTSIDE);
        due(x.ticket(0, 8), OUTSIDE);
        for (int what : Given.WILD) {
            due(x.ticket(0, what), OUTSIDE);
        }
    }

    private static void unitLooks() {
        Doc.promise(15, "LIVE UNITS of a POOL for RUNNERS (of PAIR in either order).", TicketEdges::unitsTold);
        Doc.promise(15, "UNKNOWN;", TicketEdges::unitsUnknown);
        Doc.promise(15, "OUTSIDE;", TicketEdges::unitsOutside);
        Doc.promise(15, "SAME.", TicketEdges::unitsSame);
    }

    private static void unitsTold() {
        ToteHouse x = Given.race(12);
        due(x.units(0, 12, 0, 0), 0);
        for (int i = 0; i < 198; i++) {
            x.sell(0, 2, i % 2 == 0 ? 12 : 11, i % 2 == 0 ? 11 : 12, 0, 1000);
        }
        x.sell(0, 3, 12, 11, 10, 7);
        x.sell(0, 3, 11, 12, 10, 8);
        due(x.units(2, 11, 12, 0), 198000);
        due(x.units(2, 12, 11, 0), 198000);
        due(x.units(2, 1, 2, 0), 0);
        due(x.units(3, 12, 11, 10), 7);
        due(x.units(3, 11, 12, 10), 8);
        due(x.units(3, 10, 11, 12), 0);
        due(x.units(0, 11, 0, 0), 0);
        x.cancel(0);
        due(x.units(2, 12, 11, 0), 197000);
        // Those PAID are not LIVE; of a RUNNER that is OUT there are none.
        x.scratch(0, 10);
        due(x.units(3, 12, 11, 10), 0);
        Given.run(x, 0, 3, 0, 0, 0, 0, 0, 0, 0, 0, 0, 2, 1);
        due(x.units(2, 12, 11, 0), 197000);
        x.pay(1);
        due(x.units(2, 12, 11, 0), 196000);
    }

    /** Rows that are OUTSIDE for units() and dividend() of twoRaces(). */
    private static final int[][] OUTSIDE_ROWS = {{0, 0, 0, 0}, {0, 7, 0, 0}, {0, -1, 0, 0}, {0, 1, 2, 0}, {0, 1, 0, 2},
        {0, 1, -1, 0}, {0, 1, 0, -1}, {1, 0, 0, 0}, {1, 7, 0, 0}, {1, 1, 1, 0}, {1, 1, 0, 1}, {2, 0, 1, 0},
        {2, 1, 0, 0}, {2, 7, 1, 0}, {2, 1, 7, 0}, {2, 1, 2, 3}, {3, 0, 1, 2}, {3, 1, 0, 2}, {3, 1, 2, 0}, {3, 7, 1, 2},
        {3, 1, 7, 2}, {3, 1, 2, 7}, {48, 0, 1, 0}, {48, 1, 0, 0}, {48, 7, 1, 0}, {48, 1, 5, 0}, {48, 1, 1, 1},
        {4, 5, 0, 0}};

    private static final int[][] SAME_ROWS = {{2, 1, 1, 0}, {2, 6, 6, 0}, {3, 1, 1, 2}, {3, 1, 2, 1}, {3, 2, 1, 1},
        {3, 6, 6, 6}};

    private static void unitsUnknown() {
        due(new ToteHouse().units(0, 1, 0, 0), UNKNOWN);
        ToteHouse x = Given.race(6);
        for (int pool : new int[] {-1, 4, 47, 48, 49}) {
            due(x.units(pool, 1, 0, 0), UNKNOWN);
        }
        for (int pool : Given.WILD) {
            due(x.units(pool, 1, 0, 0), UNKNOWN);
        }
    }

    private static void unitsOutside() {
        ToteHouse x = Given.twoRaces();
        for (int[] row : OUTSIDE_ROWS) {
            due(x.units(row[0], row[1], row[2], row[3]), OUTSIDE);
        }
        for (int wild : Given.WILD) {
            due(x.units(0, wild, 0, 0), OUTSIDE);
            due(x.units(0, 1, wild, 0), OUTSIDE);
            due(x.units(0, 1, 0, wild), OUTSIDE);
            due(x.units(2, 1, wild, 0), OUTSIDE);
            due(x.units(3, 1, 2, wild), OUTSIDE);
            due(x.units(48, 1, wild, 0), OUTSIDE);
        }
    }

    private static void unitsSame() {
        ToteHouse x = Given.twoRaces();
        for (int[] row : SAME_ROWS) {
            due(x.units(row[0], row[1], row[2], row[3]), SAME);
        }
        due(x.units(48, 1, 1, 0), 0);
    }

    private static void dividends() {
        Doc.promise(16, "The DIVIDEND for RUNNERS: 0 if they did not WIN, or had no LIVE UNITS, or all was REFUNDED.",
                TicketEdges::dividendTold);
        Doc.promise(16, "UNKNOWN;", TicketEdges::dividendUnknown);
        Doc.promise(16, "OUTSIDE;", TicketEdges::dividendOutside);
        Doc.promise(16, "SAME;", TicketEdges::dividendSame);
        Doc.promise(16, "STATE: it is not SETTLED.", TicketEdges::dividendState);
    }

    private static void dividendTold() {
        ToteHouse x = Given.races(1);
        x.pool(0, 0, 0, 10);
        x.pool(0, 2, 0, 10);
        x.sell(0, 0, 1, 0, 0, 1);
        x.sell(0, 0, 2, 0, 0, 1);
        x.sell(0, 0, 3, 0, 0, 1);
        x.sell(0, 2, 4, 3, 0, 1);
        x.cancel(1);
        // 1 and 2 win together; only 1 has LIVE UNITS, 3 did not win.
        Given.run(x, 0, 1, 1, 3);
        due(x.dividend(0, 1, 0, 0), 20);
        due(x.dividend(0, 2, 0, 0), 0);
        due(x.dividend(0, 3, 0, 0), 0);
        due(x.dividend(0, 4, 0, 0), 0);
        // All of PAIR was REFUNDED.
        due(x.dividend(2, 1, 2, 0), 0);
        due(x.dividend(2, 3, 4, 0), 0);
        x.pay(0);
        due(x.dividend(0, 1, 0, 0), 20);
        // One that is CANCELLED, for the same RUNNER, ahead of and behind the LIVE one.
        ToteHouse z = Given.races(1);
        z.pool(0, 0, 0, 10);
        z.sell(0, 0, 1, 0, 0, 1);
        z.sell(0, 0, 1, 0, 0, 1);
        z.sell(0, 0, 1, 0, 0, 1);
        z.cancel(0);
        z.cancel(2);
        Given.run(z, 0, 1, 2, 3);
        due(z.dividend(0, 1, 0, 0), 10);
        // Of a POOL without TICKETS; and for a RUNNER that is OUT.
        ToteHouse y = Given.race(6);
        y.scratch(0, 6);
        Given.run(y, 0, 1, 2, 3);
        due(y.dividend(0, 1, 0, 0), 0);
        due(y.dividend(0, 6, 0, 0), 0);
        due(y.dividend(3, 1, 2, 3), 0);
    }

    private static void dividendUnknown() {
        due(new ToteHouse().dividend(0, 1, 0, 0), UNKNOWN);
        ToteHouse x = Given.race(6);
        for (int pool : new int[] {-1, 4, 47, 48, 49}) {
            due(x.dividend(pool, 1, 0, 0), UNKNOWN);
        }
        for (int pool : Given.WILD) {
            due(x.dividend(pool, 1, 0, 0), UNKNOWN);
        }
    }

    private static void dividendOutside() {
        ToteHouse x = Given.twoRaces();
        for (int turn = 0; turn < 2; turn++) {
            for (int[] row : OUTSIDE_ROWS) {
                due(x.dividend(row[0], row[1], row[2], row[3]), OUTSIDE);
            }
            for (int wild : Given.WILD) {
                due(x.dividend(0, wild, 0, 0), OUTSIDE);
                due(x.dividend(1, 1, wild, 0), OUTSIDE);
                due(x.dividend(2, 1, wild, 0), OUTSIDE);
                due(x.dividend(3, 1, 2, wild), OUTSIDE);
                due(x.dividend(48, 1, wild, 0), OUTSIDE);
            }
            Given.run(x, 0, 1, 2, 3);
            Given.run(x, 1, 1, 2, 3);
        }
    }

    private static void dividendSame() {
        ToteHouse x = Given.twoRaces();
        for (int turn = 0; turn < 2; turn++) {
            for (int[] row : SAME_ROWS) {
                due(x.dividend(row[0], row[1], row[2], row[3]), SAME);
            }
            Given.run(x, 0, 1, 2, 3);
        }
    }

    private static void dividendState() {
        ToteHouse x = Given.tickets();
        due(x.dividend(0, 1, 0, 0), STATE);
        x.off(0);
        due(x.dividend(0, 1, 0, 0), STATE);
        Given.run(x, 0, 1, 2, 3);
        due(x.dividend(0, 1, 0, 0), 10);
        due(x.dividend(4, 1, 0, 0), STATE);
        due(x.dividend(48, 1, 1, 0), STATE);
        Given.run(x, 1, 1, 2, 3);
        due(x.dividend(48, 1, 1, 0), 10);
    }
}
