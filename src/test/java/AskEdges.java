import java.math.BigInteger;

/** Promises 46 to 50, sentence by sentence. */
final class AskEdges {
    private static final int UNKNOWN = ToteHouse.UNKNOWN, OUTSIDE = ToteHouse.OUTSIDE, NONE = ToteHouse.NONE;

    private AskEdges() {
    }

    private static void due(long got, long want) {
        Check.due(got, want);
    }

    static void all() {
        asks();
        traces();
        findings();
        counts();
        digests();
    }

    private static void traced(ToteHouse x, int... trace) {
        due(x.count(4), trace.length);
        for (int k = 0; k < trace.length; k++) {
            due(x.trace(k), trace[k]);
        }
        due(x.trace(trace.length), NONE);
    }

    private static void asks() {
        Doc.promise(46, "A TICKET is asked by its BODIES: what = 0 WEIGHT, 1 POINTS.", AskEdges::asked);
        Doc.promise(46, "UNKNOWN;", AskEdges::askUnknown);
        Doc.promise(46, "OUTSIDE.", AskEdges::askOutside);
    }

    private static void asked() {
        ToteHouse x = Given.tickets();
        int[] weights = {4, 2, 12, 24, 5};
        int[] points = {20, 10, 60, 113, 25};
        for (int t = 0; t < 5; t++) {
            due(x.ask(t, 0), weights[t]);
            due(x.ask(t, 1), points[t]);
        }
        // Of whatever state it is.
        x.cancel(0);
        x.scratch(0, 2);
        Given.run(x, 0, 1, 0, 2, 3);
        x.pay(1);
        for (int t = 0; t < 5; t++) {
            due(x.ask(t, 0), weights[t]);
            due(x.ask(t, 1), points[t]);
        }
    }

    private static void askUnknown() {
        due(new ToteHouse().ask(0, 0), UNKNOWN);
        ToteHouse x = Given.tickets();
        due(x.ask(5, 0), UNKNOWN);
        due(x.ask(199, 0), UNKNOWN);
        due(x.ask(200, 0), UNKNOWN);
        for (int ticket : Given.WILD) {
            x.ask(3, 1);
            due(x.ask(ticket, 1), UNKNOWN);
            traced(x);
        }
        due(x.finding(), 0);
    }

    private static void askOutside() {
        ToteHouse x = Given.tickets();
        for (int what : new int[] {-1, 2, 3, 10}) {
            x.ask(3, 1);
            due(x.ask(0, what), OUTSIDE);
            traced(x);
        }
        for (int what : Given.WILD) {
            x.ask(3, 1);
            due(x.ask(0, what), OUTSIDE);
            traced(x);
        }
    }

    private static void traces() {
        Doc.promise(47, "Number k of THE TRACE; NONE.", AskEdges::traceTold);
    }

    private static void traceTold() {
        ToteHouse x = Given.tickets();
        for (int k : new int[] {0, 1, 99, 100}) {
            due(x.trace(k), NONE);
        }
        x.ask(3, 1);
        traced(x, 21, 20, 13, 12, 10);
        for (int k = 5; k <= 101; k++) {
            due(x.trace(k), NONE);
        }
        for (int k : Given.WILD) {
            due(x.trace(k), NONE);
        }
        // A shorter one has nothing of the longer one before.
        x.ask(0, 0);
        traced(x, 10);
        due(x.trace(1), NONE);
        due(x.trace(4), NONE);
        due(x.finding(), 0);
    }

    private static void findings() {
        Doc.promise(48, "The number of the latest FINDING (0 before any).", AskEdges::findingTold);
    }

    private static void findingTold() {
        ToteHouse x = Given.race(3);
        due(x.finding(), 0);
        // What is refused without a FINDING is none.
        x.race(1);
        x.raceAt(9, 0);
        x.pool(0, 0, 0, 10);
        x.sell(0, 2, 1, 1, 0, 1);
        x.official(0);
        x.ask(0, 0);
        x.drawer(6, -1);
        x.coinAt(6, 0, 0);
        x.pace(0, 9);
        due(x.finding(), 0);
        x.drawer(0, -1);
        due(x.finding(), 5);
        x.premium(0);
        due(x.finding(), 6);
        x.lose(0);
        due(x.finding(), 1);
        x.drawer(0, 1);
        x.note(0, 0, 1L, 1);
        due(x.finding(), 1);
        x.read(0, 0);
        due(x.finding(), 3);
        x.satchel(0, 0, 1);
        x.gather(0, 0, 0, 0, 1);
        due(x.finding(), 4);
        x.held(0, 1);
        due(x.finding(), 2);
        due(x.finding(), 2);
    }

    private static void counts() {
        Doc.promise(49, "How many: 0 RACES, 1 POOLS, 2 TICKETS, 3 LIVE ones, 4 numbers in THE TRACE,",
                AskEdges::countsOfThings);
        Doc.promise(49, "5 what was DEDUCTED by all POOLS,", AskEdges::countOfDeducted);
        Doc.promise(49, "10 + f FINDINGS of number f (1 .. 6) ever.", AskEdges::countsOfFindings);
        Doc.promise(49, "OUTSIDE.", AskEdges::countOutside);
    }

    private static void countsOfThings() {
        ToteHouse x = new ToteHouse();
        for (int what = 0; what <= 5; what++) {
            due(x.count(what), 0);
        }
        for (int race = 0; race < 12; race++) {
            x.race(3);
            due(x.count(0), race + 1);
            for (int kind = 0; kind < 4; kind++) {
                x.pool(race, kind, 0, 10);
            }
            due(x.count(1), 4 * race + 4);
        }
        x.twin(0, 11, 0, 10);
        due(x.count(1), 49);
        for (int i = 0; i < 200; i++) {
            x.sell(0, 0, 1, 0, 0, 1);
        }
        due(x.count(2), 200);
        due(x.count(3), 200);
        x.cancel(7);
        due(x.count(2), 200);
        due(x.count(3), 199);
        Given.run(x, 0, 1, 2, 3);
        due(x.count(3), 199);
        x.pay(0);
        due(x.count(3), 198);
        due(x.count(4), 0);
        x.ask(0, 0);
        due(x.count(4), 1);
        x.ask(-1, 0);
        due(x.count(4), 0);
    }

    private static void countOfDeducted() {
        ToteHouse x = Given.races(2);
        x.pool(0, 0, 500, 1000);
        x.pool(0, 3, 500, 1000);
        x.twin(0, 1, 500, 1000);
        for (int i = 0; i < 198; i++) {
            x.sell(0, 0, 1, 0, 0, 1000);
        }
        x.sell(0, 3, 3, 2, 1, 1000);
        x.sell(0, 48, 1, 1, 0, 1000);
        due(x.count(5), 0);
        Given.run(x, 0, 1, 2, 3);
        // WIN, and ORDER, whose NET is CARRIED OUT.
        due(x.count(5), 99500000);
        Given.run(x, 1, 1, 2, 3);
        due(x.count(5), 100000000);
    }

    private static void countsOfFindings() {
        ToteHouse x = Given.race(3);
        for (int f = 1; f <= 6; f++) {
            due(x.count(10 + f), 0);
        }
        for (int n = 1; n <= 30; n++) {
            x.lose(0);
            x.drawer(0, -1);
            x.premium(0);
            due(x.count(11), n);
            due(x.count(15), n);
            due(x.count(16), n);
        }
        due(x.count(12), 0);
        due(x.count(13), 0);
        due(x.count(14), 0);
        x.drawer(0, 1);
        x.note(0, 0, 1L, 1);
        x.satchel(0, 0, 1);
        for (int n = 1; n <= 30; n++) {
            x.kind(0, 1);
            x.read(0, 0);
            x.gather(0, 0, 0, 0, 1);
        }
        for (int f = 1; f <= 6; f++) {
            due(x.count(10 + f), 30);
        }
    }

    private static void countOutside() {
        ToteHouse x = new ToteHouse();
        for (int what = 6; what <= 10; what++) {
            due(x.count(what), OUTSIDE);
        }
        due(x.count(-1), OUTSIDE);
        due(x.count(17), OUTSIDE);
        due(x.count(18), OUTSIDE);
        for (int what : Given.WILD) {
            due(x.count(what), OUTSIDE);
        }
    }

    private static void digests() {
        Doc.promise(50, "DIGEST: h is 17; then for each of these numbers h becomes 31 h and it, as longs that wrap:",
                AskEdges::digestWraps);
        Doc.promise(50, "of each RACE its state, then of RUNNERS 1, 2, .. what raceAt() tells (10 + i), what was"
                + " CARRIED IN to its ORDER;", AskEdges::digestOfRaces);
        Doc.promise(50, "of each POOL by number that number and book() 0 to 10;", AskEdges::digestOfPools);
        Doc.promise(50, "of each TICKET a, b, UNITS, state;", AskEdges::digestOfTickets);
        Doc.promise(50, "THE REST.", AskEdges::digestOfRest);
    }

    /** Without any wrapping on the way: the lowest 64 bits at the end. */
    private static long digestOf(long... numbers) {
        BigInteger h = BigInteger.valueOf(17);
        for (long n : numbers) {
            h = h.multiply(BigInteger.valueOf(31)).add(BigInteger.valueOf(n));
        }
        return h.longValue();
    }

    private static void digestWraps() {
        due(new ToteHouse().digest(), 527);
        // Fifteen numbers are enough to wrap: 31 to the 13th is above the greatest long.
        ToteHouse x = new ToteHouse();
        x.race(12);
        due(x.digest(), digestOf(0, 0, 0, 0, 0, 0, 0, 0, 0, 0, 0, 0, 0, 0, 0));
        x.scratch(0, 1);
        due(x.digest(), digestOf(0, -1, 0, 0, 0, 0, 0, 0, 0, 0, 0, 0, 0, 0, 0));
        x.off(0);
        x.place(0, 12, 12);
        due(x.digest(), digestOf(1, -1, 0, 0, 0, 0, 0, 0, 0, 0, 0, 0, 12, 0, 0));
        due(x.digest(), x.digest());
    }

    private static void digestOfRaces() {
        ToteHouse x = new ToteHouse();
        x.race(2);
        x.race(3);
        due(x.digest(), digestOf(0, 0, 0, 0, 0, 0, 0, 0, 0, 0));
        x.scratch(1, 3);
        x.substitute(0, 1);
        x.off(0);
        x.place(0, 1, 2);
        x.place(0, 2, 1);
        due(x.digest(), digestOf(1, 2, 1, 0, 0, 0, 0, -1, 0, 0));
        x.official(0);
        due(x.digest(), digestOf(2, 2, 1, 0, 0, 0, 0, -1, 0, 0));
        // What was CARRIED IN, to the ORDER of RACE 1 alone.
        ToteHouse y = new ToteHouse();
        y.race(3);
        y.race(2);
        y.pool(0, 3, 0, 10);
        y.pool(1, 3, 0, 10);
        y.sell(0, 3, 1, 2, 3, 7);
        Given.run(y, 0, 3, 2, 1);
        due(y.digest(), digestOf(2, 3, 2, 1, 0, 0, 0, 0, 70,
                3, 70, 0, 0, 0, 0, 70, 0, 0, 0, 0, 1,
                7, 0, 0, 0, 0, 70, 0, 0, 0, 0, 0, 0,
                1, 2, 7, 0, 0));
    }

    private static void digestOfPools() {
        ToteHouse x = new ToteHouse();
        x.race(3);
        x.race(2);
        x.twin(0, 1, 0, 10);
        x.pool(1, 0, 0, 10);
        x.pool(0, 3, 100, 10);
        x.sell(0, 3, 1, 2, 3, 2);
        x.cancel(0);
        x.sell(0, 3, 1, 2, 3, 5);
        due(x.digest(), digestOf(0, 0, 0, 0, 0, 0, 0, 0, 0,
                3, 70, 20, 0, 0, 0, 0, 0, 0, 0, 0, 0,
                4, 0, 0, 0, 0, 0, 0, 0, 0, 0, 0, 0,
                48, 0, 0, 0, 0, 0, 0, 0, 0, 0, 0, 0,
                1, 2, 2, 1, 1, 2, 5, 0, 0));
        Given.run(x, 0, 1, 2, 3);
        x.pay(1);
        // GROSS 50, 5 DEDUCTED, 45 by 5 UNITS is 9, cut to nothing.
        due(x.digest(), digestOf(2, 1, 2, 3, 0, 0, 0, 0, 0,
                3, 70, 20, 0, 5, 0, 0, 45, 0, 0, 0, 1,
                4, 0, 0, 0, 0, 0, 0, 0, 0, 0, 0, 0,
                48, 0, 0, 0, 0, 0, 0, 0, 0, 0, 0, 0,
                1, 2, 2, 1, 1, 2, 5, 3, 0));
        // The first number that there is, and the last two.
        ToteHouse y = Given.races(12);
        y.pool(0, 0, 0, 10);
        y.pool(11, 3, 0, 10);
        y.twin(0, 11, 0, 10);
        long[] numbers = new long[12 * 6 + 3 * 12 + 1];
        numbers[12 * 6 + 12] = 47;
        numbers[12 * 6 + 24] = 48;
        due(y.digest(), digestOf(numbers));
        y.sell(0, 0, 1, 0, 0, 1);
        due(y.book(0, 0), 10);
        numbers = java.util.Arrays.copyOf(numbers, numbers.length + 4);
        numbers[12 * 6 + 1] = 10;
        numbers[numbers.length - 5] = 1;
        numbers[numbers.length - 3] = 1;
        due(y.digest(), digestOf(numbers));
    }

    private static void digestOfTickets() {
        ToteHouse x = new ToteHouse();
        x.race(3);
        x.pool(0, 3, 0, 10);
        x.pool(0, 2, 0, 10);
        x.sell(5, 3, 3, 2, 1, 1000);
        x.sell(4, 2, 3, 1, 0, 1);
        x.scratch(0, 2);
        due(x.digest(), digestOf(0, 0, -1, 0, 0,
                2, 10, 0, 0, 0, 0, 0, 0, 0, 0, 0, 0,
                3, 10000, 0, 10000, 0, 0, 0, 0, 0, 0, 0, 0,
                3, 2, 1000, 2, 1, 3, 1, 0, 0));
        // c, the WINDOW are not in it.
        long[] digests = new long[2];
        for (int turn = 0; turn < 2; turn++) {
            ToteHouse y = new ToteHouse();
            y.race(4);
            y.pool(0, 3, 0, 10);
            y.sell(turn, 3, 1, 2, 3 + turn, 1);
            digests[turn] = y.digest();
        }
        due(digests[0], digests[1]);
    }

    private static void digestOfRest() {
        ToteHouse x = new ToteHouse();
        x.race(3);
        x.pool(0, 3, 0, 1000);
        x.sell(0, 3, 1, 2, 3, 1000);
        Given.run(x, 0, 3, 2, 1);
        due(x.rest(), 1000000);
        due(x.digest(), digestOf(2, 3, 2, 1, 0,
                3, 1000000, 0, 0, 0, 0, 1000000, 0, 0, 0, 0, 1,
                1, 2, 1000, 0, 1000000));
        // DRAWERS, SATCHELS, LAPS, THE TRACE, FINDINGS, worstDue() are not in it.
        long before = x.digest();
        x.drawer(0, 12);
        x.keep(0, 0, 0);
        x.satchel(0, 0, 10);
        x.gather(0, 0, 0, 0, 1);
        x.lap(0, 1);
        x.ask(0, 0);
        x.lose(5);
        x.worst(0);
        due(x.digest(), before);
    }
}
