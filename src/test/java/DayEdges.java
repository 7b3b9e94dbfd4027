/** Promises 1 to 10, sentence by sentence. */
final class DayEdges {
    private static final int UNKNOWN = ToteHouse.UNKNOWN, OUTSIDE = ToteHouse.OUTSIDE, SAME = ToteHouse.SAME,
            GONE = ToteHouse.GONE, STATE = ToteHouse.STATE, FULL = ToteHouse.FULL;
    private static final int NULL = -11;

    private DayEdges() {
    }

    private static void due(long got, long want) {
        Check.due(got, want);
    }

    static void all() {
        newObject();
        races();
        pools();
        doubles();
        substitutes();
        scratches();
        offs();
        positions();
        officials();
        raceLooks();
    }

    private static void newObject() {
        Doc.promise(1, "No RACES, POOLS, TICKETS, SATCHELS;", DayEdges::nothingAtFirst);
        Doc.promise(1, "all DRAWERS are LOST;", DayEdges::drawersLostAtFirst);
        Doc.promise(1, "THE REST is 0.", DayEdges::restAtFirst);
    }

    private static void nothingAtFirst() {
        ToteHouse x = new ToteHouse();
        due(x.count(0), 0);
        due(x.count(1), 0);
        due(x.count(2), 0);
        due(x.count(3), 0);
        for (int r = -1; r <= 12; r++) {
            due(x.raceAt(r, 0), UNKNOWN);
        }
        for (int p = -1; p <= 49; p++) {
            due(x.book(p, 10), UNKNOWN);
        }
        due(x.ticket(0, 0), UNKNOWN);
        due(x.ticket(199, 0), UNKNOWN);
        for (int s = 0; s < 4; s++) {
            due(x.held(s, 0), NULL);
        }
        due(x.digest(), 31 * 17);
    }

    private static void drawersLostAtFirst() {
        ToteHouse x = new ToteHouse();
        for (int window = 0; window < 6; window++) {
            due(x.lose(window), NULL);
            due(x.kind(window, 0), NULL);
        }
    }

    private static void restAtFirst() {
        due(new ToteHouse().rest(), 0);
        // A second object has nothing of the first one.
        ToteHouse x = Given.race(3);
        x.sell(0, 3, 1, 2, 3, 5);
        Given.run(x, 0, 3, 2, 1);
        due(x.rest(), 50);
        due(new ToteHouse().rest(), 0);
    }

    private static void races() {
        Doc.promise(2, "A RACE of n RUNNERS (2 to 12), SELLING: its number.", DayEdges::raceOfTwoToTwelve);
        Doc.promise(2, "OUTSIDE;", DayEdges::raceOutside);
        Doc.promise(2, "FULL.", DayEdges::raceFull);
    }

    private static void raceOfTwoToTwelve() {
        ToteHouse x = new ToteHouse();
        for (int n = 2; n <= 12; n++) {
            due(x.race(n), n - 2);
            due(x.raceAt(n - 2, 0), 0);
            due(x.raceAt(n - 2, 1), n);
            due(x.raceAt(n - 2, 2), n);
            due(x.raceAt(n - 2, 10 + n), 0);
            due(x.raceAt(n - 2, 11 + n), OUTSIDE);
        }
    }

    private static void raceOutside() {
        ToteHouse x = new ToteHouse();
        due(x.race(1), OUTSIDE);
        due(x.race(0), OUTSIDE);
        due(x.race(13), OUTSIDE);
        for (int n : Given.WILD) {
            due(x.race(n), OUTSIDE);
        }
        due(x.count(0), 0);
        due(x.race(2), 0);
    }

    private static void raceFull() {
        ToteHouse x = Given.races(11);
        due(x.race(12), 11);
        due(x.race(2), FULL);
        due(x.race(12), FULL);
        due(x.race(1), OUTSIDE);
        due(x.race(13), OUTSIDE);
        due(x.count(0), 12);
        due(x.raceAt(11, 1), 12);
        due(x.raceAt(12, 1), UNKNOWN);
        // A RACE that is OFFICIAL is still one of the twelve.
        Given.run(x, 0, 1, 2, 3);
        due(x.race(2), FULL);
    }

    private static void pools() {
        Doc.promise(3, "A POOL of a KIND 0 .. 3, DEDUCTION 0 to 500, UNIT 10 to 1000: its number.",
                DayEdges::poolTaken);
        Doc.promise(3, "UNKNOWN;", DayEdges::poolUnknown);
        Doc.promise(3, "OUTSIDE;", DayEdges::poolOutside);
        Doc.promise(3, "SAME: it is there;", DayEdges::poolSame);
        Doc.promise(3, "STATE: the RACE is not SELLING.", DayEdges::poolState);
    }

    private static void poolTaken() {
        ToteHouse x = Given.races(12);
        due(x.pool(0, 0, 0, 10), 0);
        due(x.pool(0, 3, 500, 1000), 3);
        due(x.pool(11, 0, 0, 1000), 44);
        due(x.pool(11, 3, 500, 10), 47);
        due(x.pool(5, 1, 1, 20), 21);
        due(x.pool(5, 2, 499, 990), 22);
        due(x.count(1), 6);
        for (int what = 0; what <= 10; what++) {
            due(x.book(47, what), 0);
        }
    }

    private static void poolUnknown() {
        ToteHouse x = new ToteHouse();
        due(x.pool(0, 0, 0, 10), UNKNOWN);
        x.race(4);
        due(x.pool(1, 0, 0, 10), UNKNOWN);
        due(x.pool(12, 0, 0, 10), UNKNOWN);
        for (int race : Given.WILD) {
            due(x.pool(race, 0, 0, 10), UNKNOWN);
        }
        due(x.count(1), 0);
    }

    private static void poolOutside() {
        ToteHouse x = Given.races(1);
        for (int kind : new int[] {-1, 4, 5, 48}) {
            due(x.pool(0, kind, 0, 10), OUTSIDE);
        }
        for (int deduction : new int[] {-1, 501, 1000}) {
            due(x.pool(0, 0, deduction, 10), OUTSIDE);
        }
        for (int unit : new int[] {-10, 0, 1, 9, 11, 15, 19, 999, 1001, 1010}) {
            due(x.pool(0, 0, 0, unit), OUTSIDE);
        }
        for (int wild : Given.WILD) {
            due(x.pool(0, wild, 0, 10), OUTSIDE);
            due(x.pool(0, 0, wild, 10), OUTSIDE);
            due(x.pool(0, 0, 0, wild), OUTSIDE);
        }
        due(x.count(1), 0);
    }

    private static void poolSame() {
        ToteHouse x = Given.races(2);
        for (int kind = 0; kind < 4; kind++) {
            due(x.pool(0, kind, 0, 10), kind);
            due(x.pool(0, kind, 0, 10), SAME);
            due(x.pool(0, kind, 500, 1000), SAME);
        }
        due(x.pool(1, 0, 0, 10), 4);
        due(x.count(1), 5);
        x.sell(0, 0, 1, 0, 0, 1);
        due(x.book(0, 0), 10);
    }

    private static void poolState() {
        ToteHouse x = Given.races(2);
        x.off(0);
        due(x.pool(0, 0, 0, 10), STATE);
        Given.run(x, 0, 1, 2, 3);
        due(x.raceAt(0, 0), 2);
        due(x.pool(0, 0, 0, 10), STATE);
        due(x.pool(1, 0, 0, 10), 4);
        due(x.count(1), 1);
    }

    private static void doubles() {
        Doc.promise(4, "THE DOUBLE, likewise: 48.", DayEdges::twinTaken);
        Doc.promise(4, "UNKNOWN;", DayEdges::twinUnknown);
        Doc.promise(4, "OUTSIDE: also if first is not less than second;", DayEdges::twinOutside);
        Doc.promise(4, "SAME: it is there;", DayEdges::twinSame);
        Doc.promise(4, "STATE: one RACE is not SELLING.", DayEdges::twinState);
    }

    private static void twinTaken() {
        int[][] terms = {{0, 10}, {500, 1000}, {0, 1000}, {500, 10}};
        for (int[] t : terms) {
            due(Given.races(2).twin(0, 1, t[0], t[1]), 48);
            due(Given.races(12).twin(0, 11, t[0], t[1]), 48);
            due(Given.races(12).twin(10, 11, t[0], t[1]), 48);
        }
        ToteHouse x = Given.races(2);
        x.twin(0, 1, 0, 10);
        due(x.count(1), 1);
        due(x.book(48, 10), 0);
    }

    private static void twinUnknown() {
        due(new ToteHouse().twin(0, 1, 0, 10), UNKNOWN);
        ToteHouse x = Given.races(2);
        due(x.twin(0, 2, 0, 10), UNKNOWN);
        due(x.twin(2, 0, 0, 10), UNKNOWN);
        due(x.twin(2, 2, 0, 10), UNKNOWN);
        due(x.twin(-1, 1, 0, 10), UNKNOWN);
        for (int race : Given.WILD) {
            due(x.twin(race, 1, 0, 10), UNKNOWN);
            due(x.twin(0, race, 0, 10), UNKNOWN);
        }
        due(x.count(1), 0);
    }

    private static void twinOutside() {
        ToteHouse x = Given.races(3);
        due(x.twin(0, 0, 0, 10), OUTSIDE);
        due(x.twin(2, 2, 0, 10), OUTSIDE);
        due(x.twin(1, 0, 0, 10), OUTSIDE);
        due(x.twin(2, 1, 0, 10), OUTSIDE);
        due(x.twin(0, 1, -1, 10), OUTSIDE);
        due(x.twin(0, 1, 501, 10), OUTSIDE);
        for (int unit : new int[] {0, 9, 11, 1001, 1010, -10}) {
            due(x.twin(0, 1, 0, unit), OUTSIDE);
        }
        for (int wild : Given.WILD) {
            due(x.twin(0, 1, wild, 10), OUTSIDE);
            due(x.twin(0, 1, 0, wild), OUTSIDE);
        }
        due(x.count(1), 0);
        due(x.twin(1, 2, 0, 10), 48);
    }

    private static void twinSame() {
        ToteHouse x = Given.races(3);
        x.twin(0, 1, 0, 10);
        due(x.twin(0, 1, 0, 10), SAME);
        due(x.twin(1, 2, 500, 1000), SAME);
        due(x.count(1), 1);
        // It is still of RACES 0 and 1.
        x.off(2);
        due(x.sell(0, 48, 1, 1, 0, 1), 0);
    }

    private static void twinState() {
        for (int race = 0; race < 2; race++) {
            ToteHouse x = Given.races(3);
            x.off(race);
            due(x.twin(0, 1, 0, 10), STATE);
            Given.run(x, race, 1, 2, 3);
            due(x.raceAt(race, 0), 2);
            due(x.twin(0, 1, 0, 10), STATE);
            due(x.twin(1 - race, 2, 0, 10), 48);
        }
    }

    private static void substitutes() {
        Doc.promise(5, "The SUBSTITUTE of a RACE: what it was (0: none).", DayEdges::substituteTaken);
        Doc.promise(5, "UNKNOWN;", DayEdges::substituteUnknown);
        Doc.promise(5, "OUTSIDE;", DayEdges::substituteOutside);
        Doc.promise(5, "GONE: it is OUT;", DayEdges::substituteGone);
        Doc.promise(5, "STATE: the RACE is not SELLING.", DayEdges::substituteState);
    }

    private static void substituteTaken() {
        ToteHouse x = Given.races(2);
        due(x.raceAt(0, 3), 0);
        due(x.substitute(0, 1), 0);
        due(x.substitute(0, 4), 1);
        due(x.substitute(0, 4), 4);
        due(x.raceAt(0, 3), 4);
        due(x.raceAt(1, 3), 0);
        due(x.substitute(1, 2), 0);
    }

    private static void substituteUnknown() {
        due(new ToteHouse().substitute(0, 1), UNKNOWN);
        ToteHouse x = Given.races(1);
        due(x.substitute(1, 1), UNKNOWN);
        for (int race : Given.WILD) {
            due(x.substitute(race, 1), UNKNOWN);
        }
    }

    private static void substituteOutside() {
        ToteHouse x = Given.races(1);
        x.substitute(0, 2);
        due(x.substitute(0, 0), OUTSIDE);
        due(x.substitute(0, 5), OUTSIDE);
        for (int runner : Given.WILD) {
            due(x.substitute(0, runner), OUTSIDE);
        }
        due(x.raceAt(0, 3), 2);
    }

    private static void substituteGone() {
        ToteHouse x = Given.races(1);
        x.substitute(0, 2);
        x.scratch(0, 1);
        due(x.substitute(0, 1), GONE);
        due(x.raceAt(0, 3), 2);
        // The one that it was, too.
        x.scratch(0, 2);
        due(x.substitute(0, 2), GONE);
        due(x.substitute(0, 3), 2);
    }

    private static void substituteState() {
        ToteHouse x = Given.races(1);
        x.substitute(0, 2);
        x.off(0);
        due(x.substitute(0, 1), STATE);
        due(x.substitute(0, 2), STATE);
        Given.run(x, 0, 1, 2, 3);
        due(x.substitute(0, 1), STATE);
        due(x.raceAt(0, 3), 2);
    }

    private static void scratches() {
        Doc.promise(6, "A RUNNER is taken OUT: how many TICKETS were REFUNDED, or are for the SUBSTITUTE now.",
                DayEdges::scratchTaken);
        Doc.promise(6, "UNKNOWN;", DayEdges::scratchUnknown);
        Doc.promise(6, "OUTSIDE;", DayEdges::scratchOutside);
        Doc.promise(6, "GONE: it is OUT;", DayEdges::scratchGone);
        Doc.promise(6, "STATE: the RACE is not SELLING.", DayEdges::scratchState);
    }

    private static void scratchTaken() {
        ToteHouse x = Given.race(2);
        for (int i = 0; i < 199; i++) {
            x.sell(0, 0, 1, 0, 0, 1);
        }
        x.sell(0, 0, 2, 0, 0, 1);
        due(x.scratch(0, 1), 199);
        due(x.raceAt(0, 2), 1);
        due(x.scratch(0, 2), 1);
        due(x.raceAt(0, 2), 0);
        due(x.count(3), 0);
        due(Given.race(12).scratch(0, 12), 0);
        // Two are REFUNDED, one is for the SUBSTITUTE, one is of another RUNNER.
        ToteHouse y = Given.tickets();
        y.sell(0, 48, 2, 1, 0, 4);
        y.substitute(0, 6);
        due(y.scratch(0, 2), 3);
        due(y.ticket(2, 5), 2);
        due(y.ticket(3, 5), 2);
        due(y.ticket(5, 5), 0);
        due(y.ticket(5, 1), 6);
        due(y.ticket(4, 1), 1);
    }

    private static void scratchUnknown() {
        due(new ToteHouse().scratch(0, 1), UNKNOWN);
        ToteHouse x = Given.races(1);
        due(x.scratch(1, 1), UNKNOWN);
        for (int race : Given.WILD) {
            due(x.scratch(race, 1), UNKNOWN);
        }
        due(x.raceAt(0, 2), 4);
    }

    private static void scratchOutside() {
        ToteHouse x = Given.races(1);
        due(x.scratch(0, 0), OUTSIDE);
        due(x.scratch(0, 5), OUTSIDE);
        for (int runner : Given.WILD) {
            due(x.scratch(0, runner), OUTSIDE);
        }
        due(x.raceAt(0, 2), 4);
        due(x.scratch(0, 4), 0);
        due(x.scratch(0, 1), 0);
    }

    private static void scratchGone() {
        ToteHouse x = Given.races(1);
        for (int runner = 1; runner <= 4; runner++) {
            due(x.scratch(0, runner), 0);
            due(x.scratch(0, runner), GONE);
            due(x.raceAt(0, 2), 4 - runner);
        }
    }

    private static void scratchState() {
        ToteHouse x = Given.races(1);
        x.off(0);
        due(x.scratch(0, 4), STATE);
        Given.run(x, 0, 1, 2, 3);
        due(x.scratch(0, 4), STATE);
        due(x.raceAt(0, 14), 0);
    }

    private static void offs() {
        Doc.promise(7, "A RACE is OFF: how many RUNNERS are not OUT.", DayEdges::offTaken);
        Doc.promise(7, "UNKNOWN;", DayEdges::offUnknown);
        Doc.promise(7, "STATE: it is not SELLING.", DayEdges::offState);
    }

    private static void offTaken() {
        for (int n = 2; n <= 12; n += 5) {
            for (int out = 0; out <= n; out++) {
                ToteHouse x = Given.race(n);
                Given.without(x, 0, 1, out);
                due(x.off(0), n - out);
                due(x.raceAt(0, 0), 1);
            }
        }
    }

    private static void offUnknown() {
        due(new ToteHouse().off(0), UNKNOWN);
        ToteHouse x = Given.races(12);
        due(x.off(12), UNKNOWN);
        for (int race : Given.WILD) {
            due(x.off(race), UNKNOWN);
        }
        due(x.off(11), 4);
    }

    private static void offState() {
        ToteHouse x = Given.races(1);
        x.off(0);
        due(x.off(0), STATE);
        due(x.raceAt(0, 0), 1);
        Given.run(x, 0, 1, 2, 3);
        due(x.off(0), STATE);
        due(x.raceAt(0, 0), 2);
    }

    private static void positions() {
        Doc.promise(8, "The POSITION (1 .. 12; 0: none) of a RUNNER: what it was.", DayEdges::placeTaken);
        Doc.promise(8, "UNKNOWN;", DayEdges::placeUnknown);
        Doc.promise(8, "OUTSIDE;", DayEdges::placeOutside);
        Doc.promise(8, "GONE: it is OUT;", DayEdges::placeGone);
        Doc.promise(8, "STATE: the RACE is not OFF.", DayEdges::placeState);
    }

    private static void placeTaken() {
        ToteHouse x = Given.race(2);
        x.off(0);
        int before = 0;
        for (int position = 1; position <= 12; position++) {
            due(x.place(0, 2, position), before);
            due(x.raceAt(0, 12), position);
            before = position;
        }
        due(x.place(0, 2, 0), 12);
        due(x.place(0, 2, 0), 0);
        due(x.place(0, 1, 12), 0);
        due(x.place(0, 2, 12), 0);
    }

    private static void placeUnknown() {
        due(new ToteHouse().place(0, 1, 1), UNKNOWN);
        ToteHouse x = Given.races(1);
        x.off(0);
        due(x.place(1, 1, 1), UNKNOWN);
        for (int race : Given.WILD) {
            due(x.place(race, 1, 1), UNKNOWN);
        }
    }

    private static void placeOutside() {
        ToteHouse x = Given.races(1);
        x.off(0);
        due(x.place(0, 0, 1), OUTSIDE);
        due(x.place(0, 5, 1), OUTSIDE);
        due(x.place(0, 1, -1), OUTSIDE);
        due(x.place(0, 1, 13), OUTSIDE);
        for (int wild : Given.WILD) {
            due(x.place(0, wild, 1), OUTSIDE);
            due(x.place(0, 1, wild), OUTSIDE);
        }
        due(x.raceAt(0, 11), 0);
    }

    private static void placeGone() {
        ToteHouse x = Given.races(1);
        x.scratch(0, 1);
        x.off(0);
        due(x.place(0, 1, 1), GONE);
        due(x.place(0, 1, 0), GONE);
        due(x.raceAt(0, 11), -1);
        due(x.place(0, 2, 1), 0);
    }

    private static void placeState() {
        ToteHouse x = Given.races(1);
        due(x.place(0, 1, 1), STATE);
        due(x.place(0, 1, 0), STATE);
        due(x.raceAt(0, 11), 0);
        Given.run(x, 0, 1, 2, 3);
        due(x.place(0, 1, 2), STATE);
        due(x.place(0, 1, 0), STATE);
        due(x.raceAt(0, 11), 1);
    }

    private static void officials() {
        Doc.promise(9, "A RACE is OFFICIAL: how many POOLS were SETTLED.", DayEdges::officialTaken);
        Doc.promise(9, "UNKNOWN;", DayEdges::officialUnknown);
        Doc.promise(9, "STATE: it is not OFF;", DayEdges::officialNotOff);
        Doc.promise(9, "POSITIONS are not RIGHT;", DayEdges::officialNotRight);
        Doc.promise(9, "fewer RUNNERS have one than 3, and than are not OUT.", DayEdges::officialWithTooFew);
    }

    private static void officialTaken() {
        for (int pools = 0; pools <= 4; pools++) {
            ToteHouse x = Given.races(2);
            for (int kind = 0; kind < pools; kind++) {
                x.pool(0, kind, 0, 10);
            }
            due(Given.run(x, 0, 1, 2, 3), pools);
            due(x.raceAt(0, 0), 2);
        }
        ToteHouse y = Given.twoRaces();
        due(Given.run(y, 0, 1, 2, 3), 4);
        due(Given.run(y, 1, 1, 2, 3), 5);
        // THE DOUBLE alone.
        ToteHouse z = Given.races(2);
        z.twin(0, 1, 0, 10);
        due(Given.run(z, 1, 1, 2, 3), 0);
        due(Given.run(z, 0, 1, 2, 3), 1);
    }

    private static void officialUnknown() {
        due(new ToteHouse().official(0), UNKNOWN);
        ToteHouse x = Given.races(1);
        due(x.official(1), UNKNOWN);
        for (int race : Given.WILD) {
            due(x.official(race), UNKNOWN);
        }
    }

    private static void officialNotOff() {
        ToteHouse x = Given.race(2);
        due(x.official(0), STATE);
        Given.without(x, 0, 1, 2);
        due(x.official(0), STATE);
        due(x.raceAt(0, 0), 0);
        due(Given.run(x, 0), 4);
        due(x.official(0), STATE);
    }

    private static void officialNotRight() {
        int[][] wrong = {{2, 3, 4}, {1, 2, 4}, {1, 3, 4}, {1, 1, 2}, {1, 2, 2, 3}, {1, 1, 1, 2}, {1, 1, 1, 3},
            {1, 2, 3, 5}, {1, 2, 3, 12}, {12, 12, 12}, {2, 2, 2}, {1, 2, 3, 4, 6}};
        for (int[] positions : wrong) {
            ToteHouse x = Given.race(12);
            due(Given.run(x, 0, positions), STATE);
            due(x.raceAt(0, 0), 1);
            due(x.book(0, 10), 0);
        }
        int[][] right = {{1, 2, 3}, {1, 1, 3}, {1, 2, 2}, {1, 1, 1}, {1, 1, 1, 4}, {1, 2, 2, 4}, {1, 2, 3, 3},
            {1, 1, 1, 1, 1, 1, 1, 1, 1, 1, 1, 1}, {1, 1, 1, 1, 1, 1, 1, 1, 1, 1, 1, 12},
            {12, 11, 10, 9, 8, 7, 6, 5, 4, 3, 2, 1}, {1, 2, 3, 4, 5, 6, 7, 8, 9, 10, 11, 11}};
        for (int[] positions : right) {
            due(Given.run(Given.race(12), 0, positions), 4);
        }
    }

    private static void officialWithTooFew() {
        for (int n = 2; n <= 12; n++) {
            for (int out = 0; out <= n; out++) {
                int least = Math.min(3, n - out);
                for (int placed = 0; placed <= least; placed++) {
                    ToteHouse x = Given.race(n);
                    Given.without(x, 0, 1, out);
                    x.off(0);
                    for (int i = 1; i <= placed; i++) {
                        x.place(0, out + i, i);
                    }
                    due(x.official(0), placed < least ? STATE : 4);
                }
            }
        }
    }

    private static void raceLooks() {
        Doc.promise(10, "Of a RACE: 0 its state, 1 RUNNERS, 2 those not OUT, 3 its SUBSTITUTE (0),",
                DayEdges::raceAtFirstFour);
        Doc.promise(10, "4 what was CARRIED IN to its ORDER (0 without one),", DayEdges::raceAtCarried);
        Doc.promise(10, "10 + i the POSITION of RUNNER i (0: none; -1: it is OUT).", DayEdges::raceAtPosition);
        Doc.promise(10, "UNKNOWN;", DayEdges::raceAtUnknown);
        Doc.promise(10, "OUTSIDE.", DayEdges::raceAtOutside);
    }

    private static void raceAtFirstFour() {
        ToteHouse x = Given.races(1);
        int[] atFirst = {0, 4, 4, 0};
        for (int what = 0; what < 4; what++) {
            due(x.raceAt(0, what), atFirst[what]);
        }
        x.substitute(0, 4);
        Given.without(x, 0, 1, 4);
        x.off(0);
        int[] allOut = {1, 4, 0, 4};
        for (int what = 0; what < 4; what++) {
            due(x.raceAt(0, what), allOut[what]);
        }
        x.official(0);
        due(x.raceAt(0, 0), 2);
    }

    private static void raceAtCarried() {
        ToteHouse x = Given.races(3);
        x.pool(0, 3, 0, 10);
        x.pool(2, 3, 0, 10);
        x.sell(0, 3, 1, 2, 3, 1000);
        Given.run(x, 0, 3, 2, 1);
        due(x.raceAt(0, 4), 0);
        due(x.raceAt(1, 4), 0);
        due(x.raceAt(2, 4), 10000);
        Given.run(x, 2, 3, 2, 1);
        due(x.raceAt(2, 4), 10000);
    }

    private static void raceAtPosition() {
        ToteHouse x = Given.race(12);
        x.scratch(0, 1);
        x.scratch(0, 12);
        x.off(0);
        x.place(0, 2, 1);
        x.place(0, 11, 12);
        due(x.raceAt(0, 11), -1);
        due(x.raceAt(0, 12), 1);
        due(x.raceAt(0, 13), 0);
        due(x.raceAt(0, 21), 12);
        due(x.raceAt(0, 22), -1);
    }

    private static void raceAtUnknown() {
        due(new ToteHouse().raceAt(0, 0), UNKNOWN);
        ToteHouse x = Given.races(12);
        due(x.raceAt(12, 0), UNKNOWN);
        for (int race : Given.WILD) {
            due(x.raceAt(race, 0), UNKNOWN);
        }
        due(x.raceAt(11, 0), 0);
    }

    private static void raceAtOutside() {
        ToteHouse x = Given.races(1);
        for (int what = 5; what <= 10; what++) {
            due(x.raceAt(0, what), OUTSIDE);
        }
        for (int what = 15; what <= 23; what++) {
            due(x.raceAt(0, what), OUTSIDE);
        }
        for (int what : Given.WILD) {
            due(x.raceAt(0, what), OUTSIDE);
        }
        due(Given.race(12).raceAt(0, 22), 0);
        due(Given.race(12).raceAt(0, 23), OUTSIDE);
    }
}
