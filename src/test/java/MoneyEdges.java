/** 3 MONEY, sentence by sentence. */
final class MoneyEdges {
    private static final int LIVE = 0, CANCELLED = 1, REFUNDED = 2, PAID = 3;

    private MoneyEdges() {
    }

    private static void due(long got, long want) {
        Check.due(got, want);
    }

    static void all() {
        settling();
        nobodyTakes();
        carrying();
        sharing();
    }

    private static void figures(ToteHouse x, int pool, int... figures) {
        for (int what = 0; what < figures.length; what++) {
            due(x.book(pool, what), figures[what]);
        }
    }

    /** One RACE of n RUNNERS with one POOL. */
    private static ToteHouse onePool(int n, int kind, int deduction, int unit) {
        ToteHouse x = new ToteHouse();
        x.race(n);
        x.pool(0, kind, deduction, unit);
        return x;
    }

    private static void settling() {
        Doc.holds(Doc.MONEY, "A RACE's POOLS are SETTLED by KIND when it becomes OFFICIAL, THE DOUBLE (behind them)"
                + " when both its RACES are.", MoneyEdges::settledWhenOfficial);
        Doc.holds(Doc.MONEY, "GROSS: the STAKES of the POOL's LIVE TICKETS;", MoneyEdges::grossOfLive);
        Doc.holds(Doc.MONEY, "DEDUCTED: GROSS times DEDUCTION by 1000, cut;", MoneyEdges::deductedIsCut);
        Doc.holds(Doc.MONEY, "NET: GROSS less DEDUCTED, and what was CARRIED IN (ORDER alone).",
                MoneyEdges::netWithCarried);
        Doc.holds(Doc.MONEY, "What WINS and has LIVE UNITS are the TAKERS.", MoneyEdges::takersHaveLiveUnits);
    }

    private static void settledWhenOfficial() {
        for (int last = 0; last < 2; last++) {
            ToteHouse x = Given.tickets();
            x.sell(0, 4, 1, 0, 0, 4);
            int first = 1 - last;
            x.off(first);
            x.place(first, 1, 1);
            x.place(first, 2, 2);
            x.place(first, 3, 3);
            for (int pool : new int[] {0, 1, 2, 3, 4, 5, 6, 7, 48}) {
                due(x.book(pool, 10), 0);
            }
            due(x.official(first), 4);
            for (int kind = 0; kind < 4; kind++) {
                due(x.book(4 * first + kind, 10), 1);
                due(x.book(4 * last + kind, 10), 0);
            }
            due(x.book(48, 10), 0);
            due(Given.run(x, last, 1, 2, 3), 5);
            due(x.book(48, 10), 1);
            due(x.book(48, 8), 40);
        }
    }

    private static void grossOfLive() {
        ToteHouse x = onePool(4, 0, 0, 10);
        x.sell(0, 0, 1, 0, 0, 1);
        x.sell(0, 0, 2, 0, 0, 10);
        x.sell(0, 0, 3, 0, 0, 100);
        x.sell(0, 0, 1, 0, 0, 1000);
        x.cancel(3);
        x.scratch(0, 3);
        Given.run(x, 0, 1, 2, 0, 3);
        // 1000 UNITS are CANCELLED, 100 REFUNDED: 11 are LIVE.
        due(x.dividend(0, 1, 0, 0), 110);
        figures(x, 0, 11110, 10000, 1000, 0, 0, 0, 0, 0, 110, 0, 1);
    }

    private static void deductedIsCut() {
        int[][] rows = {{0, 1000, 0}, {1, 1, 0}, {1, 99, 0}, {1, 100, 1}, {1, 199, 1}, {499, 1, 4}, {500, 1, 5},
            {333, 3, 9}, {333, 1000, 3330}, {499, 999, 4985}};
        for (int[] r : rows) {
            ToteHouse x = onePool(3, 0, r[0], 10);
            x.sell(0, 0, 1, 0, 0, r[1]);
            Given.run(x, 0, 1, 2, 3);
            due(x.book(0, 3), r[2]);
        }
        // The greatest GROSS: GROSS times DEDUCTION is far above the greatest int.
        ToteHouse y = onePool(3, 0, 499, 1000);
        for (int i = 0; i < 200; i++) {
            y.sell(0, 0, 1, 0, 0, 1000);
        }
        Given.run(y, 0, 1, 2, 3);
        figures(y, 0, 200000000, 0, 0, 99800000, 0, 0, 200000, 0, 100000000, 0, 1);
    }

    private static void netWithCarried() {
        ToteHouse x = Given.races(2);
        x.pool(0, 3, 100, 10);
        for (int kind = 0; kind < 4; kind++) {
            x.pool(1, kind, 100, 10);
        }
        x.sell(0, 3, 1, 2, 3, 1000);
        Given.run(x, 0, 3, 2, 1);
        x.sell(0, 4, 1, 0, 0, 100);
        x.sell(0, 6, 1, 2, 0, 100);
        x.sell(0, 7, 1, 2, 3, 100);
        Given.run(x, 1, 1, 2, 3);
        // 1000 less 100 by 100 UNITS is 9, cut to nothing; with 9000 CARRIED IN it is 99, cut to 90.
        figures(x, 4, 1000, 0, 0, 100, 0, 0, 900, 0, 0, 0, 1);
        figures(x, 6, 1000, 0, 0, 100, 0, 0, 900, 0, 0, 0, 1);
        figures(x, 7, 1000, 0, 0, 100, 9000, 0, 900, 0, 9000, 0, 1);
    }

    private static void takersHaveLiveUnits() {
        // 1 and 2 win; 2's only TICKET is CANCELLED: 1 alone is a TAKER.
        ToteHouse x = onePool(4, 0, 0, 10);
        x.sell(0, 0, 1, 0, 0, 2);
        x.sell(0, 0, 2, 0, 0, 2);
        x.sell(0, 0, 3, 0, 0, 2);
        x.cancel(1);
        Given.run(x, 0, 1, 1, 3);
        due(x.dividend(0, 1, 0, 0), 20);
        due(x.dividend(0, 2, 0, 0), 0);
        // Several TICKETS for one are one TAKER.
        ToteHouse y = onePool(4, 0, 0, 10);
        y.sell(0, 0, 1, 0, 0, 1);
        y.sell(5, 0, 1, 0, 0, 1);
        y.sell(0, 0, 2, 0, 0, 1);
        y.sell(0, 0, 3, 0, 0, 1);
        Given.run(y, 0, 1, 1, 3);
        due(y.dividend(0, 1, 0, 0), 10);
        due(y.dividend(0, 2, 0, 0), 20);
        // A PAIR in either order is one TAKER, too.
        ToteHouse z = onePool(4, 2, 0, 10);
        z.sell(0, 2, 1, 2, 0, 1);
        z.sell(0, 2, 2, 1, 0, 1);
        z.sell(0, 2, 1, 3, 0, 2);
        Given.run(z, 0, 1, 2, 2);
        due(z.dividend(2, 1, 2, 0), 10);
        due(z.dividend(2, 3, 1, 0), 10);
    }

    private static void nobodyTakes() {
        Doc.holds(Doc.MONEY, "VOID, or no TAKERS: all LIVE TICKETS are REFUNDED, nothing is DEDUCTED;",
                MoneyEdges::refundedWithoutTakers);
        Doc.holds(Doc.MONEY, "but an ORDER that is not VOID, without TAKERS: its NET is CARRIED OUT (and its TICKETS"
                + " get nothing).", MoneyEdges::orderWithoutTakers);
        Doc.holds(Doc.MONEY, "What was CARRIED IN to a VOID ORDER is CARRIED OUT.", MoneyEdges::voidOrderCarries);
    }

    private static void refundedWithoutTakers() {
        ToteHouse x = Given.races(2);
        for (int kind = 0; kind < 3; kind++) {
            x.pool(0, kind, 500, 10);
        }
        x.twin(0, 1, 500, 10);
        x.sell(0, 0, 2, 0, 0, 1);
        x.sell(0, 1, 1, 0, 0, 2);
        x.sell(0, 2, 3, 4, 0, 3);
        x.sell(0, 48, 1, 2, 0, 4);
        x.sell(0, 0, 3, 0, 0, 5);
        x.cancel(4);
        // WIN, PAIR, THE DOUBLE have no TAKERS; PLACE, with four RUNNERS, is VOID.
        Given.run(x, 0, 1, 2, 3);
        Given.run(x, 1, 1, 2, 3);
        figures(x, 0, 60, 50, 10, 0, 0, 0, 0, 0, 0, 0, 1);
        figures(x, 1, 20, 0, 20, 0, 0, 0, 0, 0, 0, 0, 1);
        figures(x, 2, 30, 0, 30, 0, 0, 0, 0, 0, 0, 0, 1);
        figures(x, 48, 40, 0, 40, 0, 0, 0, 0, 0, 0, 0, 1);
        for (int t = 0; t < 4; t++) {
            due(x.ticket(t, 5), REFUNDED);
            due(x.ticket(t, 7), 0);
            due(x.pay(t), ToteHouse.STATE);
        }
        due(x.ticket(4, 5), CANCELLED);
        due(x.count(5), 0);
        due(x.rest(), 0);
        // A POOL without TICKETS, and a RACE without RUNNERS.
        ToteHouse y = Given.race(2);
        Given.without(y, 0, 1, 2);
        due(Given.run(y, 0), 4);
        for (int pool = 0; pool < 4; pool++) {
            figures(y, pool, 0, 0, 0, 0, 0, 0, 0, 0, 0, 0, 1);
        }
    }

    private static void orderWithoutTakers() {
        ToteHouse x = onePool(4, 3, 333, 10);
        x.sell(0, 3, 1, 2, 3, 3);
        x.sell(0, 3, 1, 2, 4, 4);
        x.cancel(1);
        Given.run(x, 0, 3, 2, 1);
        figures(x, 3, 70, 40, 0, 9, 0, 21, 0, 0, 0, 0, 1);
        due(x.ticket(0, 5), LIVE);
        due(x.ticket(0, 7), 0);
        due(x.pay(0), 0);
        due(x.ticket(0, 5), PAID);
        due(x.rest(), 21);
        due(x.count(5), 9);
        due(x.dividend(3, 3, 2, 1), 0);
        // Three RUNNERS are not too few, and an ORDER without TICKETS has nothing to carry.
        ToteHouse y = onePool(3, 3, 0, 10);
        Given.run(y, 0, 1, 2, 3);
        figures(y, 3, 0, 0, 0, 0, 0, 0, 0, 0, 0, 0, 1);
        due(y.rest(), 0);
    }

    private static void voidOrderCarries() {
        ToteHouse x = Given.races(2);
        x.pool(0, 3, 0, 10);
        x.pool(1, 3, 500, 10);
        x.sell(0, 3, 1, 2, 3, 7);
        x.sell(0, 7, 1, 2, 3, 5);
        x.sell(0, 7, 1, 2, 4, 5);
        Given.run(x, 0, 3, 2, 1);
        x.scratch(1, 3);
        x.scratch(1, 4);
        Given.run(x, 1, 1, 2);
        figures(x, 7, 100, 0, 100, 0, 70, 70, 0, 0, 0, 0, 1);
        due(x.rest(), 70);
        // LIVE TICKETS of it can't be: a ROW of three needs three RUNNERS.
        due(x.ticket(1, 5), REFUNDED);
        due(x.ticket(2, 5), REFUNDED);
    }

    private static void carrying() {
        Doc.holds(Doc.MONEY, "CARRIED OUT goes to the ORDER of the least RACE behind this one that has one and is not"
                + " OFFICIAL (CARRIED IN there), or, without such, to THE REST.", MoneyEdges::carriedToTheNext);
        Doc.holds(Doc.MONEY, "or, without such, to THE REST.", MoneyEdges::carriedToTheRest);
    }

    private static void carriedToTheNext() {
        // RACE 1 has no ORDER, 2 is OFFICIAL, 3 is OFF, 4 is SELLING.
        ToteHouse x = Given.races(5);
        for (int race = 0; race < 5; race++) {
            x.pool(race, race == 1 ? 2 : 3, 0, 10);
        }
        x.sell(0, 3, 1, 2, 3, 5);
        Given.run(x, 2, 1, 2, 3);
        x.off(3);
        Given.run(x, 0, 3, 2, 1);
        int[] carried = {0, 0, 0, 50, 0};
        for (int race = 0; race < 5; race++) {
            due(x.raceAt(race, 4), carried[race]);
        }
        due(x.book(15, 4), 50);
        due(x.rest(), 0);
        // On through all twelve: each adds its own.
        ToteHouse y = Given.races(12);
        for (int race = 0; race < 12; race++) {
            y.pool(race, 3, 0, 1000);
            y.sell(0, 4 * race + 3, 1, 2, 3, 1000);
        }
        for (int race = 0; race < 12; race++) {
            due(y.raceAt(race, 4), 1000000 * race);
            Given.run(y, race, 3, 2, 1);
            due(y.book(4 * race + 3, 5), 1000000 * (race + 1));
        }
        due(y.rest(), 12000000);
        // Two that come to the same one add up; none goes to a RACE ahead.
        ToteHouse z = Given.races(4);
        for (int race = 0; race < 4; race++) {
            z.pool(race, 3, 0, 10);
            z.sell(0, 4 * race + 3, 1, 2, 3, 1 << race);
        }
        Given.run(z, 2, 3, 2, 1);
        Given.run(z, 1, 3, 2, 1);
        due(z.raceAt(0, 4), 0);
        due(z.raceAt(3, 4), 60);
        Given.run(z, 3, 1, 2, 3);
        due(z.dividend(15, 1, 2, 3), 10 * (2 + 4 + 8) / 8 / 10 * 10);
        due(z.book(15, 6), 140 - 80);
    }

    private static void carriedToTheRest() {
        // The last of twelve; one whose successors have no ORDER; one whose successors are OFFICIAL.
        ToteHouse x = Given.races(12);
        x.pool(11, 3, 0, 10);
        x.sell(0, 47, 1, 2, 3, 1);
        Given.run(x, 11, 3, 2, 1);
        due(x.rest(), 10);
        ToteHouse y = Given.races(3);
        y.pool(0, 3, 0, 10);
        y.pool(1, 2, 0, 10);
        y.pool(2, 0, 0, 10);
        y.twin(1, 2, 0, 10);
        y.sell(0, 3, 1, 2, 3, 1);
        Given.run(y, 0, 3, 2, 1);
        due(y.rest(), 10);
        // An ORDER that is told later gets nothing of it.
        y.pool(1, 3, 0, 10);
        due(y.raceAt(1, 4), 0);
        ToteHouse z = Given.races(2);
        z.pool(0, 3, 0, 10);
        z.pool(1, 3, 0, 10);
        z.sell(0, 3, 1, 2, 3, 1);
        Given.run(z, 1, 1, 2, 3);
        Given.run(z, 0, 3, 2, 1);
        due(z.raceAt(1, 4), 0);
        due(z.rest(), 10);
    }

    private static void sharing() {
        Doc.holds(Doc.MONEY, "WIN, PAIR, ORDER, THE DOUBLE: each TAKER has NET by how many TAKERS there are, cut; the"
                + " DIVIDEND of a UNIT is that by the TAKER's UNITS, cut to whole tens.", MoneyEdges::sharedByTakers);
        Doc.holds(Doc.MONEY, "PLACE: GAIN is NET less the STAKES of the TAKERS.", MoneyEdges::gainOfPlace);
        Doc.holds(Doc.MONEY, "Below 0: the DIVIDEND is the UNIT, the COST less GAIN.", MoneyEdges::gainBelowZero);
        Doc.holds(Doc.MONEY, "Else each has GAIN by how many TAKERS, cut; the DIVIDEND is the UNIT and that by the"
                + " TAKER's UNITS, cut to whole tens.", MoneyEdges::gainIsShared);
        Doc.holds(Doc.MONEY, "BREAKAGE: what of NET (and COST) is left when all UNITS of TAKERS have their DIVIDEND.",
                MoneyEdges::breakageIsLeft);
        Doc.holds(Doc.MONEY, "DUE of a TICKET: its UNITS times the DIVIDEND for its RUNNERS (0 if these did not WIN).",
                MoneyEdges::dueOfTicket);
    }

    private static void sharedByTakers() {
        // 3 TAKERS of NET 100: 33 each; of 1, 3, 4 UNITS: 33, 11, 8, cut to 30, 10, 0.
        ToteHouse x = onePool(4, 0, 0, 10);
        x.sell(0, 0, 1, 0, 0, 1);
        x.sell(0, 0, 2, 0, 0, 3);
        x.sell(0, 0, 3, 0, 0, 4);
        x.sell(0, 0, 4, 0, 0, 2);
        Given.run(x, 0, 1, 1, 1);
        due(x.dividend(0, 1, 0, 0), 30);
        due(x.dividend(0, 2, 0, 0), 10);
        due(x.dividend(0, 3, 0, 0), 0);
        due(x.dividend(0, 4, 0, 0), 0);
        figures(x, 0, 100, 0, 0, 0, 0, 0, 40, 0, 60, 0, 1);
        // A DIVIDEND below the UNIT, just a ten, just below a ten.
        int[][] tens = {{0, 10, 10}, {1, 10, 10}, {10, 10, 0}, {500, 20, 10}, {499, 20, 10}, {501 - 1, 30, 10}};
        for (int[] t : tens) {
            ToteHouse y = onePool(4, 0, t[0], t[1]);
            y.sell(0, 0, 1, 0, 0, 10);
            Given.run(y, 0, 1, 2, 3);
            int net = 10 * t[1] - 10 * t[1] * t[0] / 1000;
            due(y.dividend(0, 1, 0, 0), net / 10 / 10 * 10);
        }
        sharedByTakersOfRows();
    }

    private static void sharedByTakersOfRows() {
        ToteHouse x = Given.races(2);
        x.pool(0, 2, 0, 10);
        x.pool(0, 3, 0, 10);
        x.twin(0, 1, 0, 10);
        int[][] pairs = {{1, 2, 1}, {1, 3, 3}, {2, 3, 5}, {1, 4, 2}};
        for (int[] p : pairs) {
            x.sell(0, 2, p[0], p[1], 0, p[2]);
            x.sell(0, 48, p[0], p[1], 0, p[2]);
        }
        x.sell(0, 3, 1, 2, 3, 1);
        x.sell(0, 3, 3, 2, 1, 3);
        x.sell(0, 3, 1, 2, 4, 7);
        Given.run(x, 0, 1, 1, 1);
        Given.run(x, 1, 3, 1, 1);
        // PAIR: NET 110 by 3 TAKERS is 36: by 1, 3, 5 UNITS 36, 12, 7.
        due(x.dividend(2, 1, 2, 0), 30);
        due(x.dividend(2, 1, 3, 0), 10);
        due(x.dividend(2, 2, 3, 0), 0);
        // ORDER: NET 110 by 2 TAKERS is 55: by 1, 3 UNITS 55, 18.
        due(x.dividend(3, 1, 2, 3), 50);
        due(x.dividend(3, 3, 2, 1), 10);
        due(x.dividend(3, 1, 2, 4), 0);
        // THE DOUBLE: (1, 2), (1, 3), (2, 3) are TAKERS.
        due(x.dividend(48, 1, 2, 0), 30);
        due(x.dividend(48, 1, 3, 0), 10);
        due(x.dividend(48, 2, 3, 0), 0);
    }

    /** PLACE of five RUNNERS: UNITS of 1, 2, the two with POSITIONS 1 and 2, and of 3. */
    private static ToteHouse place(int deduction, int unit, int one, int two, int three) {
        ToteHouse x = onePool(5, 1, deduction, unit);
        int[] units = {one, two, three};
        for (int i = 0; i < 3; i++) {
            if (units[i] > 0) {
                x.sell(0, 1, i + 1, 0, 0, units[i]);
            }
        }
        Given.run(x, 0, 1, 2, 3);
        return x;
    }

    private static void gainOfPlace() {
        // NET 100, GAIN 70 and 0; the STAKES of those that lose are not taken off.
        due(place(0, 10, 1, 2, 7).dividend(1, 1, 0, 0), 10 + 30);
        due(place(0, 10, 4, 6, 0).dividend(1, 1, 0, 0), 10);
        figures(place(0, 10, 1, 2, 7), 1, 100, 0, 0, 0, 0, 0, 100 - 40 - 2 * 20, 0, 80, 0, 1);
        // Of that POOL alone: another one was SETTLED, and odds() asked for, before.
        ToteHouse x = new ToteHouse();
        for (int race = 0; race < 2; race++) {
            x.race(5);
            x.pool(race, 1, 0, 10);
            x.sell(0, 4 * race + 1, 1, 0, 0, 1);
            x.sell(0, 4 * race + 1, 3, 0, 0, 9);
        }
        due(x.odds(1, 3, 1, 2), 10);
        Given.run(x, 0, 1, 2, 3);
        due(x.odds(5, 3, 1, 2), 10);
        Given.run(x, 1, 1, 2, 3);
        due(x.dividend(1, 1, 0, 0), 100);
        due(x.dividend(5, 1, 0, 0), 100);
    }

    private static void gainBelowZero() {
        // GROSS 100, NET 50; STAKES of the TAKERS 60: GAIN -10.
        ToteHouse x = place(500, 10, 4, 2, 4);
        due(x.dividend(1, 1, 0, 0), 10);
        due(x.dividend(1, 2, 0, 0), 10);
        due(x.dividend(1, 3, 0, 0), 0);
        figures(x, 1, 100, 0, 0, 50, 0, 0, 0, 10, 60, 0, 1);
        // All of it: NET is half of the STAKES.
        figures(place(500, 1000, 1000, 1000, 0), 1, 2000000, 0, 0, 1000000, 0, 0, 0, 1000000, 2000000, 0, 1);
        // Just below 0: 1 is missing. And one TAKER alone.
        figures(place(1, 10, 60, 40, 0), 1, 1000, 0, 0, 1, 0, 0, 0, 1, 1000, 0, 1);
        figures(place(500, 20, 3, 0, 0), 1, 60, 0, 0, 30, 0, 0, 0, 30, 60, 0, 1);
    }

    private static void gainIsShared() {
        // GAIN 0: the UNIT, without COST.
        ToteHouse zero = place(500, 10, 3, 2, 5);
        due(zero.dividend(1, 1, 0, 0), 10);
        figures(zero, 1, 100, 0, 0, 50, 0, 0, 0, 0, 50, 0, 1);
        // GAIN 75 by 2 is 37: by 1 and 4 UNITS 37 and 9, cut to 30 and 0.
        ToteHouse x = place(0, 10, 1, 4, 8);
        due(x.book(1, 0), 130);
        due(x.dividend(1, 1, 0, 0), 10 + 40);
        due(x.dividend(1, 2, 0, 0), 10 + 10);
        ToteHouse y = place(50, 10, 1, 4, 8);
        // NET 124, GAIN 74: 37 each.
        due(y.dividend(1, 1, 0, 0), 10 + 30);
        due(y.dividend(1, 2, 0, 0), 10);
        figures(y, 1, 130, 0, 0, 6, 0, 0, 124 - 40 - 40, 0, 80, 0, 1);
        // One TAKER alone has it all.
        due(place(0, 10, 1, 0, 9).dividend(1, 1, 0, 0), 10 + 90);
        // Three TAKERS by a dead heat for the second.
        ToteHouse z = onePool(5, 1, 0, 10);
        for (int runner = 1; runner <= 4; runner++) {
            z.sell(0, 1, runner, 0, 0, runner == 4 ? 11 : 1);
        }
        Given.run(z, 0, 1, 2, 2);
        // GAIN 110 by 3 is 36.
        for (int runner = 1; runner <= 3; runner++) {
            due(z.dividend(1, runner, 0, 0), 10 + 30);
        }
        due(z.book(1, 6), 140 - 120);
    }

    private static void breakageIsLeft() {
        // Nothing is left, all is left, some of two TAKERS is left.
        ToteHouse x = onePool(4, 0, 0, 10);
        x.sell(0, 0, 1, 0, 0, 1);
        Given.run(x, 0, 1, 2, 3);
        due(x.book(0, 6), 0);
        ToteHouse y = onePool(4, 0, 1, 10);
        y.sell(0, 0, 1, 0, 0, 1000);
        Given.run(y, 0, 1, 2, 3);
        figures(y, 0, 10000, 0, 0, 10, 0, 0, 9990, 0, 0, 0, 1);
        ToteHouse z = onePool(4, 0, 0, 10);
        z.sell(0, 0, 1, 0, 0, 3);
        z.sell(0, 0, 2, 0, 0, 7);
        z.sell(0, 0, 3, 0, 0, 9);
        Given.run(z, 0, 1, 1, 3);
        // 95 each: 31 and 13, cut to 30 and 10: 90 and 70 of 190.
        figures(z, 0, 190, 0, 0, 0, 0, 0, 30, 0, 160, 0, 1);
        // Without TAKERS there is none.
        ToteHouse w = onePool(4, 0, 333, 10);
        w.sell(0, 0, 1, 0, 0, 3);
        Given.run(w, 0, 2, 1, 3);
        due(w.book(0, 6), 0);
    }

    private static void dueOfTicket() {
        ToteHouse x = onePool(4, 0, 0, 10);
        x.sell(0, 0, 1, 0, 0, 1);
        x.sell(0, 0, 1, 0, 0, 2);
        x.sell(0, 0, 2, 0, 0, 6);
        x.sell(0, 0, 1, 0, 0, 1);
        x.cancel(3);
        Given.run(x, 0, 1, 2, 3);
        // 90 by 3 UNITS.
        due(x.ticket(0, 7), 30);
        due(x.ticket(1, 7), 60);
        due(x.ticket(2, 7), 0);
        due(x.ticket(3, 7), 0);
        due(x.pay(1), 60);
        due(x.pay(2), 0);
        due(x.ticket(1, 7), 60);
        due(x.unclaimed(), 30);
        due(x.book(0, 8), 90);
        due(x.book(0, 9), 60);
    }
}
