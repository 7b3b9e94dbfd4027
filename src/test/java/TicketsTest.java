/** Promises 11 to 23 but for the money of a SETTLED POOL, which MoneyTest has. */
public final class TicketsTest {
    private static final int UNKNOWN = ToteHouse.UNKNOWN, OUTSIDE = ToteHouse.OUTSIDE, SAME = ToteHouse.SAME,
            GONE = ToteHouse.GONE, STATE = ToteHouse.STATE, FULL = ToteHouse.FULL;

    private static void due(long got, long want) {
        Check.due(got, want);
    }

    public static void main(String[] args) {
        sellUnknownAndOutside();
        sellSameGoneState();
        sellFull();
        cancel();
        pay();
        ticket();
        units();
        dividend();
        odds();
        book();
        worst();
        worstByPlaces();
        worstOfTwo();
        premium();
        premiumOfMuch();
        Check.end();
    }

    private static void sellUnknownAndOutside() {
        ToteHouse x = Given.twoRaces();
        due(x.sell(-1, 0, 1, 0, 0, 1), UNKNOWN);
        due(x.sell(6, 0, 1, 0, 0, 1), UNKNOWN);
        due(x.sell(0, 8, 1, 0, 0, 1), UNKNOWN);
        due(x.sell(0, -1, 1, 0, 0, 1), UNKNOWN);
        due(x.sell(0, 49, 1, 0, 0, 1), UNKNOWN);
        due(x.sell(0, Given.LEAST, 99, 0, 0, 0), UNKNOWN);
        due(x.sell(0, Given.MOST, 99, 0, 0, 0), UNKNOWN);
        due(x.sell(0, 0, 1, 0, 0, 0), OUTSIDE);
        due(x.sell(0, 0, 1, 0, 0, 1001), OUTSIDE);
        due(x.sell(0, 0, 1, 0, 0, -1), OUTSIDE);
        due(x.sell(0, 0, 0, 0, 0, 1), OUTSIDE);
        due(x.sell(0, 0, 7, 0, 0, 1), OUTSIDE);
        due(x.sell(0, 0, -1, 0, 0, 1), OUTSIDE);
        due(x.sell(0, 0, Given.LEAST, 0, 0, 1), OUTSIDE);
        due(x.sell(0, 0, Given.MOST, 0, 0, 1), OUTSIDE);
        due(x.sell(0, 0, 1, 1, 0, 1), OUTSIDE);
        due(x.sell(0, 0, 1, 0, 2, 1), OUTSIDE);
        due(x.sell(0, 1, 1, 2, 0, 1), OUTSIDE);
        due(x.sell(0, 1, 1, 0, -1, 1), OUTSIDE);
        due(x.sell(0, 2, 1, 0, 0, 1), OUTSIDE);
        due(x.sell(0, 2, 1, 7, 0, 1), OUTSIDE);
        due(x.sell(0, 2, 1, 1, 3, 1), OUTSIDE);
        due(x.sell(0, 3, 1, 2, 0, 1), OUTSIDE);
        due(x.sell(0, 3, 1, 1, 7, 1), OUTSIDE);
        due(x.sell(0, 48, 7, 1, 0, 1), OUTSIDE);
        due(x.sell(0, 48, 1, 5, 0, 1), OUTSIDE);
        due(x.sell(0, 48, 1, 0, 0, 1), OUTSIDE);
        due(x.sell(0, 48, 1, 1, 1, 1), OUTSIDE);
        due(x.count(2), 0);
        due(x.book(0, 0), 0);
        due(x.sell(5, 0, 6, 0, 0, 1000), 0);
        due(x.sell(0, 48, 6, 4, 0, 1), 1);
        due(x.sell(0, 48, 4, 4, 0, 1), 2);
    }

    private static void sellSameGoneState() {
        ToteHouse x = Given.twoRaces();
        due(x.sell(0, 2, 3, 3, 0, 1), SAME);
        due(x.sell(0, 3, 1, 1, 2, 1), SAME);
        due(x.sell(0, 3, 1, 2, 1, 1), SAME);
        due(x.sell(0, 3, 2, 1, 1, 1), SAME);
        x.scratch(0, 3);
        x.scratch(1, 2);
        due(x.sell(0, 2, 3, 3, 0, 0), OUTSIDE);
        due(x.sell(0, 2, 3, 3, 0, 1), SAME);
        due(x.sell(0, 0, 3, 0, 0, 1), GONE);
        due(x.sell(0, 1, 3, 0, 0, 1), GONE);
        due(x.sell(0, 2, 1, 3, 0, 1), GONE);
        due(x.sell(0, 2, 3, 1, 0, 1), GONE);
        due(x.sell(0, 3, 3, 1, 2, 1), GONE);
        due(x.sell(0, 3, 1, 3, 2, 1), GONE);
        due(x.sell(0, 3, 1, 2, 3, 1), GONE);
        due(x.sell(0, 48, 3, 1, 0, 1), GONE);
        due(x.sell(0, 48, 1, 2, 0, 1), GONE);
        due(x.sell(0, 48, 2, 3, 0, 1), 0);
        x.off(0);
        due(x.sell(0, 0, 3, 0, 0, 1), GONE);
        due(x.sell(0, 2, 1, 1, 0, 1), SAME);
        due(x.sell(0, 0, 1, 0, 0, 1), STATE);
        due(x.sell(0, 48, 1, 1, 0, 1), STATE);
        due(x.sell(0, 4, 1, 0, 0, 1), 1);
        ToteHouse y = Given.twoRaces();
        y.off(1);
        due(y.sell(0, 48, 1, 1, 0, 1), STATE);
        due(y.sell(0, 0, 1, 0, 0, 1), 0);
    }

    private static void sellFull() {
        ToteHouse x = Given.race(3);
        for (int i = 0; i < 200; i++) {
            due(x.sell(i % 6, 0, 1 + i % 3, 0, 0, 1), i);
        }
        due(x.sell(0, 0, 1, 0, 0, 1), FULL);
        due(x.sell(0, 0, 4, 0, 0, 1), OUTSIDE);
        x.cancel(0);
        due(x.sell(0, 0, 1, 0, 0, 1), FULL);
        due(x.count(2), 200);
        due(x.count(3), 199);
        due(x.ticket(199, 4), 1);
        due(x.ticket(200, 4), UNKNOWN);
        due(x.ask(200, 0), UNKNOWN);
        due(x.book(0, 0), 2000);
        x.off(0);
        due(x.sell(0, 0, 1, 0, 0, 1), STATE);
    }

    private static void cancel() {
        ToteHouse x = Given.tickets();
        due(x.cancel(-1), UNKNOWN);
        due(x.cancel(5), UNKNOWN);
        due(x.cancel(Given.LEAST), UNKNOWN);
        due(x.cancel(0), 40);
        due(x.cancel(0), STATE);
        due(x.ticket(0, 5), 1);
        due(x.book(0, 1), 40);
        due(x.book(0, 0), 40);
        x.scratch(0, 2);
        due(x.cancel(2), STATE);
        // Of THE DOUBLE the FIRST RACE alone counts.
        x.off(1);
        due(x.cancel(4), 40);
        x.off(0);
        due(x.cancel(1), STATE);
        ToteHouse y = Given.tickets();
        y.off(0);
        due(y.cancel(4), STATE);
        due(y.book(48, 1), 0);
    }

    private static void pay() {
        ToteHouse x = Given.tickets();
        due(x.pay(5), UNKNOWN);
        due(x.pay(-1), UNKNOWN);
        due(x.pay(0), STATE);
        x.cancel(0);
        x.sell(0, 0, 1, 0, 0, 2);
        x.sell(0, 0, 2, 0, 0, 2);
        x.off(0);
        due(x.pay(5), STATE);
        Given.run(x, 0, 1, 2, 3);
        due(x.pay(0), STATE);
        due(x.pay(4), STATE);
        due(x.pay(6), 0);
        due(x.ticket(6, 5), 3);
        due(x.pay(6), STATE);
        due(x.book(0, 9), 0);
        due(x.pay(5), 40);
        due(x.pay(5), STATE);
        due(x.ticket(5, 5), 3);
        due(x.book(0, 9), 40);
        due(x.book(0, 8), 40);
    }

    private static void ticket() {
        ToteHouse x = Given.twoRaces();
        due(x.ticket(0, 0), UNKNOWN);
        due(x.sell(3, 2, 5, 2, 0, 17), 0);
        due(x.sell(5, 3, 5, 2, 4, 1), 1);
        due(x.sell(1, 48, 5, 2, 0, 2), 2);
        due(x.ticket(-1, 99), UNKNOWN);
        due(x.ticket(3, 0), UNKNOWN);
        due(x.ticket(0, -1), OUTSIDE);
        due(x.ticket(0, 8), OUTSIDE);
        int[][] rows = {{2, 2, 5, 0, 17, 0, 3, 0}, {3, 5, 2, 4, 1, 0, 5, 0}, {48, 5, 2, 0, 2, 0, 1, 0}};
        for (int t = 0; t < 3; t++) {
            for (int what = 0; what < 8; what++) {
                due(x.ticket(t, what), rows[t][what]);
            }
        }
        Given.run(x, 0, 0, 2, 0, 3, 1, 0);
        due(x.ticket(0, 7), 170);
        due(x.ticket(1, 7), 10);
        due(x.ticket(2, 7), 0);
        x.pay(0);
        due(x.ticket(0, 7), 170);
        due(x.ticket(0, 5), 3);
        x.scratch(1, 2);
        due(x.ticket(2, 5), 2);
        Given.run(x, 1, 1, 0, 2, 3);
        due(x.ticket(2, 7), 0);
    }

    private static void units() {
        ToteHouse x = Given.twoRaces();
        due(x.units(8, 1, 0, 0), UNKNOWN);
        due(x.units(-1, 1, 0, 0), UNKNOWN);
        due(x.units(0, 0, 0, 0), OUTSIDE);
        due(x.units(0, 7, 0, 0), OUTSIDE);
        due(x.units(0, 1, 1, 0), OUTSIDE);
        due(x.units(1, 1, 0, 1), OUTSIDE);
        due(x.units(2, 1, 0, 0), OUTSIDE);
        due(x.units(2, 1, 1, 1), OUTSIDE);
        due(x.units(3, 1, 1, 0), OUTSIDE);
        due(x.units(48, 6, 5, 0), OUTSIDE);
        due(x.units(2, 1, 1, 0), SAME);
        due(x.units(3, 1, 2, 1), SAME);
        due(x.units(48, 1, 1, 0), 0);
        x.sell(0, 0, 1, 0, 0, 1);
        x.sell(1, 0, 1, 0, 0, 2);
        x.sell(0, 1, 1, 0, 0, 4);
        x.sell(0, 2, 1, 2, 0, 8);
        x.sell(0, 2, 2, 1, 0, 16);
        x.sell(0, 3, 1, 2, 3, 32);
        x.sell(0, 3, 2, 1, 3, 64);
        x.sell(0, 4, 1, 0, 0, 128);
        x.sell(0, 48, 1, 2, 0, 256);
        x.sell(0, 48, 2, 1, 0, 512);
        due(x.units(0, 1, 0, 0), 3);
        due(x.units(0, 2, 0, 0), 0);
        due(x.units(1, 1, 0, 0), 4);
        due(x.units(2, 1, 2, 0), 24);
        due(x.units(2, 2, 1, 0), 24);
        due(x.units(3, 1, 2, 3), 32);
        due(x.units(3, 2, 1, 3), 64);
        due(x.units(3, 3, 2, 1), 0);
        due(x.units(4, 1, 0, 0), 128);
        due(x.units(48, 1, 2, 0), 256);
        due(x.units(48, 2, 1, 0), 512);
        x.cancel(0);
        due(x.units(0, 1, 0, 0), 2);
        Given.run(x, 0, 1, 2, 3);
        due(x.units(0, 1, 0, 0), 2);
        x.pay(1);
        due(x.units(0, 1, 0, 0), 0);
        x.scratch(1, 1);
        due(x.units(4, 1, 0, 0), 0);
    }

    private static void dividend() {
        ToteHouse x = Given.tickets();
        due(x.dividend(8, 1, 0, 0), UNKNOWN);
        due(x.dividend(0, 0, 0, 0), OUTSIDE);
        due(x.dividend(0, 1, 2, 0), OUTSIDE);
        due(x.dividend(2, 1, 1, 0), SAME);
        due(x.dividend(3, 2, 1, 1), SAME);
        due(x.dividend(0, 1, 0, 0), STATE);
        due(x.dividend(48, 1, 1, 0), STATE);
        x.sell(0, 2, 3, 4, 0, 4);
        Given.run(x, 0, 1, 2, 3);
        due(x.dividend(0, 1, 0, 0), 10);
        due(x.dividend(0, 2, 0, 0), 0);
        due(x.dividend(0, 7, 0, 0), OUTSIDE);
        due(x.dividend(2, 2, 2, 0), SAME);
        due(x.dividend(2, 1, 2, 0), 20);
        due(x.dividend(2, 2, 1, 0), 20);
        due(x.dividend(2, 3, 4, 0), 0);
        due(x.dividend(3, 1, 2, 3), 10);
        due(x.dividend(3, 2, 1, 3), 0);
        due(x.dividend(48, 1, 1, 0), STATE);
        x.pay(0);
        due(x.dividend(0, 1, 0, 0), 10);
        // Nothing WINS that has LIVE UNITS: all is REFUNDED, and there is no DIVIDEND.
        Given.run(x, 1, 2, 1, 3);
        due(x.dividend(48, 1, 1, 0), 0);
        due(x.dividend(48, 1, 2, 0), 0);
        due(x.ticket(4, 5), 2);
    }

    private static void odds() {
        ToteHouse x = Given.tickets();
        long before = x.digest();
        due(x.odds(8, 1, 2, 3), UNKNOWN);
        due(x.odds(48, 1, 2, 0), UNKNOWN);
        due(x.odds(-1, 1, 2, 0), UNKNOWN);
        due(x.odds(0, 0, 2, 3), OUTSIDE);
        due(x.odds(0, 7, 2, 3), OUTSIDE);
        due(x.odds(0, 1, 0, 0), OUTSIDE);
        due(x.odds(0, 1, 7, 3), OUTSIDE);
        due(x.odds(0, 1, 1, 7), OUTSIDE);
        due(x.odds(0, 1, 2, -1), OUTSIDE);
        due(x.odds(0, 1, 1, 0), SAME);
        due(x.odds(0, 1, 2, 1), SAME);
        due(x.odds(0, 1, 2, 2), SAME);
        due(x.odds(0, 1, 2, 0), 10);
        due(x.odds(0, 2, 1, 3), 0);
        due(x.odds(2, 2, 1, 0), 10);
        due(x.odds(2, 1, 3, 2), 0);
        due(x.odds(3, 1, 2, 3), 10);
        due(x.odds(3, 1, 2, 0), 0);
        due(x.odds(3, 1, 3, 2), 0);
        due(x.odds(1, 1, 2, 3), 10);
        due(x.digest(), before);
        // A VOID POOL has none; POSITIONS that were told don't count.
        due(x.scratch(0, 6), 0);
        due(x.scratch(0, 5), 0);
        due(x.odds(1, 1, 2, 3), 0);
        due(x.odds(0, 6, 6, 1), SAME);
        due(x.odds(0, 6, 2, 3), GONE);
        due(x.odds(0, 1, 6, 3), GONE);
        due(x.odds(0, 1, 2, 6), GONE);
        x.off(0);
        x.place(0, 2, 1);
        due(x.odds(0, 1, 2, 3), 10);
        x.place(0, 1, 2);
        x.place(0, 3, 3);
        x.official(0);
        due(x.odds(0, 6, 2, 3), GONE);
        due(x.odds(0, 1, 2, 3), STATE);
        oddsByHowMany();
    }

    private static void oddsByHowMany() {
        ToteHouse x = Given.race(8);
        x.sell(0, 1, 1, 0, 0, 1);
        x.sell(0, 1, 2, 0, 0, 1);
        x.sell(0, 1, 3, 0, 0, 1);
        x.sell(0, 1, 4, 0, 0, 10);
        // 130 less the STAKES, by 3, 2 or 1 TAKERS.
        due(x.odds(1, 1, 2, 3), 40);
        due(x.odds(1, 1, 2, 0), 60);
        due(x.odds(1, 1, 5, 0), 130);
        due(x.odds(1, 5, 1, 2), 0);
        x.scratch(0, 8);
        due(x.odds(1, 1, 2, 3), 60);
        due(x.odds(1, 3, 4, 1), 20);
    }

    private static void book() {
        ToteHouse x = Given.tickets();
        due(x.book(8, 0), UNKNOWN);
        due(x.book(-1, -1), UNKNOWN);
        due(x.book(49, 0), UNKNOWN);
        due(x.book(0, -1), OUTSIDE);
        due(x.book(0, 11), OUTSIDE);
        due(x.book(0, Given.LEAST), OUTSIDE);
        due(x.book(0, 0), 40);
        due(x.book(48, 0), 40);
        for (int what = 1; what <= 10; what++) {
            due(x.book(0, what), 0);
        }
    }

    private static void worst() {
        ToteHouse x = Given.race(5);
        due(x.worst(1), UNKNOWN);
        due(x.worst(-1), UNKNOWN);
        due(x.worst(0), 10203);
        due(x.worstDue(), 0);
        x.sell(0, 0, 3, 0, 0, 7);
        due(x.worst(0), 30102);
        due(x.worstDue(), 70);
        x.sell(0, 2, 4, 2, 0, 9);
        due(x.worst(0), 20401);
        due(x.worstDue(), 90);
        x.sell(0, 3, 4, 2, 5, 1);
        due(x.worst(0), 40205);
        due(x.worstDue(), 100);
        x.sell(0, 1, 2, 0, 0, 3);
        due(x.worst(0), 40205);
        due(x.worstDue(), 130);
        due(x.worst(9), UNKNOWN);
        due(x.worstDue(), 130);
        // With four RUNNERS PLACE is VOID; those OUT are in no ROW.
        x.scratch(0, 5);
        due(x.worst(0), 20401);
        due(x.worstDue(), 90);
        x.off(0);
        x.place(0, 1, 1);
        due(x.worst(0), 20401);
        Given.run(x, 0, 1, 2, 3);
        due(x.worst(0), STATE);
        due(x.worstDue(), 90);
        worstWithoutTheDouble();
    }

    private static void worstByPlaces() {
        ToteHouse x = Given.race(9);
        x.sell(0, 1, 2, 0, 0, 7);
        x.sell(0, 1, 4, 0, 0, 3);
        x.sell(0, 1, 9, 0, 0, 6);
        // NET 160: 2 alone would have 140, 4 alone 150, all three 160, and any two at most 130.
        due(x.worst(0), 20409);
        due(x.worstDue(), 160);
        x.scratch(0, 1);
        x.scratch(0, 3);
        // With seven RUNNERS the third does not count.
        due(x.worst(0), 40502);
        due(x.worstDue(), 150);
        due(x.raceAt(0, 2), 7);
    }

    private static void worstWithoutTheDouble() {
        ToteHouse x = Given.twoRaces();
        x.sell(0, 48, 4, 1, 0, 100);
        x.sell(0, 4, 4, 0, 0, 100);
        due(x.worst(0), 10203);
        due(x.worstDue(), 0);
        due(x.worst(1), 40102);
        due(x.worstDue(), 1000);
    }

    private static void worstOfTwo() {
        ToteHouse x = Given.race(4);
        x.sell(0, 0, 4, 0, 0, 1);
        x.sell(0, 2, 2, 4, 0, 5);
        x.sell(0, 3, 4, 2, 1, 50);
        x.scratch(0, 1);
        due(x.worst(0), 40203);
        x.scratch(0, 3);
        due(x.worst(0), 40200);
        due(x.worstDue(), 60);
        x.scratch(0, 2);
        due(x.worst(0), GONE);
        x.scratch(0, 4);
        due(x.worst(0), GONE);
        due(x.worstDue(), 60);
        Given.run(x, 0);
        due(x.worst(0), STATE);
    }

    private static void premium() {
        ToteHouse x = new ToteHouse();
        due(x.premium(-1), UNKNOWN);
        due(x.premium(6), UNKNOWN);
        due(x.count(16), 0);
        due(x.premium(0), -16);
        due(x.finding(), 6);
        due(x.count(16), 1);
        x.race(3);
        x.pool(0, 0, 500, 10);
        due(x.premium(0), -16);
        x.sell(0, 0, 1, 0, 0, 1);
        x.sell(1, 0, 1, 0, 0, 1);
        x.sell(1, 0, 2, 0, 0, 5);
        due(x.premium(0), 0);
        x.cancel(2);
        Given.run(x, 0, 1, 2, 3);
        // 10 are DEDUCTED, by 7 UNITS of any state.
        due(x.premium(0), 1);
        due(x.premium(1), 8);
        due(x.premium(5), 0);
        x.pay(0);
        due(x.premium(0), 1);
    }

    private static void premiumOfMuch() {
        ToteHouse x = new ToteHouse();
        x.race(2);
        x.pool(0, 0, 500, 1000);
        for (int i = 0; i < 200; i++) {
            x.sell(i == 0 ? 3 : 2, 0, 1, 0, 0, 1000);
        }
        Given.run(x, 0, 1, 2);
        due(x.book(0, 0), 200000000);
        due(x.book(0, 3), 100000000);
        due(x.book(0, 8), 100000000);
        due(x.dividend(0, 1, 0, 0), 500);
        due(x.unclaimed(), 100000000);
        due(x.premium(2), 99500000);
        due(x.premium(3), 500000);
        due(x.count(5), 100000000);
    }
}
