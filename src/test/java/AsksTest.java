/** Promises 46 to 50. */
public final class AsksTest {
    private static final int UNKNOWN = ToteHouse.UNKNOWN, OUTSIDE = ToteHouse.OUTSIDE, NONE = ToteHouse.NONE;

    private static void due(long got, long want) {
        Check.due(got, want);
    }

    public static void main(String[] args) {
        bodies();
        ask();
        trace();
        finding();
        count();
        digest();
        Check.end();
    }

    private static void asked(ToteHouse x, int ticket, int what, int answer, int... trace) {
        due(x.ask(ticket, what), answer);
        due(x.count(4), trace.length);
        for (int k = 0; k < trace.length; k++) {
            due(x.trace(k), trace[k]);
        }
        due(x.trace(trace.length), NONE);
    }

    private static ToteHouse withUnits(int units) {
        ToteHouse x = Given.twoRaces();
        x.sell(0, 0, 1, 0, 0, units);
        x.sell(0, 1, 1, 0, 0, units);
        x.sell(0, 2, 1, 2, 0, units);
        x.sell(0, 3, 1, 2, 3, units);
        x.sell(0, 48, 1, 1, 0, units);
        return x;
    }

    private static void bodies() {
        for (int u : new int[] {1, 2, 3, 7, 1000}) {
            ToteHouse x = withUnits(u);
            asked(x, 0, 0, u, 10);
            asked(x, 1, 0, u / 2, 11, 10);
            asked(x, 2, 0, 3 * u, 12, 10);
            asked(x, 3, 0, 6 * u, 13, 12, 10);
            asked(x, 4, 0, u + 1, 14, 10);
            asked(x, 0, 1, 5 * u, 20, 10);
            if (u == 1) {
                asked(x, 1, 1, 3, 22);
            } else {
                asked(x, 1, 1, 5 * (u / 2), 22, 20, 11, 10);
            }
            asked(x, 2, 1, 15 * u, 20, 12, 10);
            asked(x, 3, 1, 30 * u - 7, 21, 20, 13, 12, 10);
            asked(x, 4, 1, 5 * (u + 1), 20, 14, 10);
        }
    }

    private static void ask() {
        ToteHouse x = Given.tickets();
        asked(x, 3, 1, 113, 21, 20, 13, 12, 10);
        asked(x, 5, 0, UNKNOWN);
        asked(x, 3, 1, 113, 21, 20, 13, 12, 10);
        asked(x, -1, 9, UNKNOWN);
        asked(x, 0, 0, 4, 10);
        asked(x, 0, 2, OUTSIDE);
        asked(x, 0, -1, OUTSIDE);
        x.cancel(0);
        asked(x, 0, 0, 4, 10);
        due(x.finding(), 0);
    }

    private static void trace() {
        ToteHouse x = Given.tickets();
        due(x.trace(0), NONE);
        x.ask(3, 0);
        due(x.trace(-1), NONE);
        due(x.trace(Given.LEAST), NONE);
        due(x.trace(0), 13);
        due(x.trace(2), 10);
        due(x.trace(3), NONE);
        due(x.trace(99), NONE);
        due(x.trace(100), NONE);
        due(x.trace(Given.MOST), NONE);
        // Other calls leave it as it is.
        x.scratch(0, 1);
        x.off(0);
        due(x.trace(0), 13);
    }

    private static void finding() {
        ToteHouse x = Given.race(3);
        due(x.finding(), 0);
        x.lose(0);
        due(x.finding(), 1);
        x.lapAt(0, 0);
        due(x.finding(), 2);
        x.drawer(0, 1);
        due(x.finding(), 2);
        x.note(0, 0, 1L, 1);
        x.read(0, 0);
        due(x.finding(), 3);
        x.satchel(0, 0, 1);
        x.gather(0, 0, 0, 0, 1);
        due(x.finding(), 4);
        x.drawer(0, -1);
        due(x.finding(), 5);
        x.premium(0);
        due(x.finding(), 6);
        x.lose(9);
        x.race(1);
        due(x.finding(), 6);
        for (int f = 1; f <= 6; f++) {
            due(x.count(10 + f), 1);
        }
    }

    private static void count() {
        ToteHouse x = Given.tickets();
        due(x.count(0), 2);
        due(x.count(1), 9);
        due(x.count(2), 5);
        due(x.count(3), 5);
        x.cancel(0);
        x.scratch(0, 2);
        due(x.count(2), 5);
        due(x.count(3), 2);
        due(x.count(4), 0);
        due(x.count(5), 0);
        due(x.count(-1), OUTSIDE);
        due(x.count(6), OUTSIDE);
        due(x.count(9), OUTSIDE);
        due(x.count(10), OUTSIDE);
        due(x.count(17), OUTSIDE);
        due(x.count(Given.LEAST), OUTSIDE);
        due(x.count(Given.MOST), OUTSIDE);
        due(x.count(11), 0);
        due(x.count(16), 0);
        ToteHouse y = new ToteHouse();
        y.race(3);
        y.pool(0, 0, 100, 10);
        y.pool(0, 3, 500, 10);
        y.sell(0, 0, 1, 0, 0, 1);
        y.sell(0, 3, 1, 2, 3, 1);
        Given.run(y, 0, 1, 3, 2);
        due(y.count(5), 6);
        due(y.count(3), 2);
        y.pay(0);
        due(y.count(3), 1);
    }

    private static long digestOf(ToteHouse x, int[] runners, int[] pools) {
        long h = 17;
        for (int r = 0; r < runners.length; r++) {
            h = 31 * h + x.raceAt(r, 0);
            for (int i = 1; i <= runners[r]; i++) {
                h = 31 * h + x.raceAt(r, 10 + i);
            }
            h = 31 * h + x.raceAt(r, 4);
        }
        for (int p : pools) {
            h = 31 * h + p;
            for (int what = 0; what <= 10; what++) {
                h = 31 * h + x.book(p, what);
            }
        }
        for (int t = 0; t < x.count(2); t++) {
            h = 31 * h + x.ticket(t, 1);
            h = 31 * h + x.ticket(t, 2);
            h = 31 * h + x.ticket(t, 4);
            h = 31 * h + x.ticket(t, 5);
        }
        return 31 * h + x.rest();
    }

    private static void digest() {
        ToteHouse x = new ToteHouse();
        due(x.digest(), 527);
        x.race(2);
        due(x.digest(), ((((17L * 31) * 31) * 31) * 31) * 31);
        x.race(4);
        int[] runners = {2, 4};
        x.pool(1, 3, 10, 10);
        x.pool(0, 0, 100, 10);
        x.twin(0, 1, 0, 10);
        int[] pools = {0, 7, 48};
        x.sell(2, 0, 2, 0, 0, 9);
        x.sell(2, 7, 3, 1, 2, 500);
        x.sell(2, 48, 1, 4, 0, 1000);
        due(x.digest(), digestOf(x, runners, pools));
        x.scratch(1, 4);
        due(x.digest(), digestOf(x, runners, pools));
        Given.run(x, 0, 2, 1);
        x.pay(0);
        due(x.digest(), digestOf(x, runners, pools));
        Given.run(x, 1, 1, 2, 3);
        due(x.rest(), 4950);
        due(x.digest(), digestOf(x, runners, pools));
        // What is in drawers, satchels, laps, asks does not count.
        long before = x.digest();
        x.drawer(0, 3);
        x.satchel(0, 0, 3);
        x.lap(0, 7);
        x.ask(0, 1);
        x.read(0, 9);
        due(x.digest(), before);
    }
}
