/** How an object is used, the terms and the results, sentence by sentence. */
final class TermEdges {
    private static final int UNKNOWN = ToteHouse.UNKNOWN, OUTSIDE = ToteHouse.OUTSIDE, GONE = ToteHouse.GONE,
            STATE = ToteHouse.STATE, FULL = ToteHouse.FULL;
    private static final int REFUNDED = 2;

    private TermEdges() {
    }

    private static void due(long got, long want) {
        Check.due(got, want);
    }

    static void all() {
        Doc.holds(Doc.USE, "An object is used for at most 512 calls after it has been made;",
                TermEdges::usedFor512Calls);
        racesAndPools();
        tickets();
        takenOut();
        positions();
        whatWins();
    }

    /** Everything there may be at most, in one object; the last call is the 512th. */
    private static void usedFor512Calls() {
        ToteHouse x = new ToteHouse();
        int calls = 0;
        for (int race = 0; race < 12; race++) {
            due(x.race(12), race);
            calls++;
            for (int kind = 0; kind < 4; kind++) {
                due(x.pool(race, kind, 500, 1000), 4 * race + kind);
                calls++;
            }
        }
        due(x.twin(0, 11, 500, 1000), 48);
        calls++;
        for (int t = 0; t < 200; t++) {
            due(x.sell(t % 6, t % 49 == 48 ? 48 : 4 * (t % 12), 12, t % 49 == 48 ? 12 : 0, 0, 1000), t);
            calls++;
        }
        for (int window = 0; window < 6; window++) {
            due(x.drawer(window, 12), 12);
            calls++;
        }
        for (int s = 0; s < 4; s++) {
            due(x.satchel(s, 0, 10), 10);
            due(x.gather(s, 0, s, 0, 10), 10);
            calls += 2;
        }
        for (int race = 0; race < 12; race++) {
            due(x.off(race), 12);
            due(x.place(race, 12, 1), 0);
            due(x.place(race, 11, 2), 0);
            due(x.place(race, 10, 3), 0);
            due(x.official(race), race == 11 ? 5 : 4);
            calls += 5;
        }
        for (int lap = 1; lap <= 12; lap++) {
            due(x.lap(11, lap), lap);
            calls++;
        }
        while (calls < 510) {
            due(x.finding(), 0);
            calls++;
        }
        // All that was sold is of the one that won: half of it is DEDUCTED, half of it DUE.
        due(x.count(5), 100000000);
        due(x.unclaimed(), 100000000);
        due(calls + 2, 512);
    }

    private static void racesAndPools() {
        Doc.holds(Doc.TERMS, "RACES 0, 1, .. (12 at most) have RUNNERS 1 .. as many as were told (2 to 12); a RUNNER"
                + " may be OUT.", TermEdges::racesHaveRunners);
        Doc.holds(Doc.TERMS, "A RACE is SELLING (0), OFF (1) or OFFICIAL (2).", TermEdges::raceStates);
        Doc.holds(Doc.TERMS, "POOLS: of a RACE r those of KINDS 0 WIN, 1 PLACE, 2 PAIR, 3 ORDER that were told,"
                + " numbered 4 r + KIND;", TermEdges::poolNumbers);
        Doc.holds(Doc.TERMS, "and THE DOUBLE, 48, of two RACES, the FIRST and the SECOND (KIND 4).",
                TermEdges::theDoubleIs48);
        Doc.holds(Doc.TERMS, "Each has a DEDUCTION (thousandths) and a UNIT (cents, whole tens).",
                TermEdges::deductionAndUnit);
        Doc.holds(Doc.TERMS, "It is SETTLED once, as told in 3.", TermEdges::settledOnce);
    }

    private static void racesHaveRunners() {
        ToteHouse x = new ToteHouse();
        for (int race = 0; race < 12; race++) {
            int n = race == 0 ? 2 : race == 1 ? 12 : race;
            due(x.race(n), race);
            due(x.scratch(race, 0), OUTSIDE);
            due(x.scratch(race, n + 1), OUTSIDE);
            due(x.scratch(race, 1), 0);
            due(x.scratch(race, n), 0);
            due(x.raceAt(race, 11), -1);
            due(x.raceAt(race, 10 + n), -1);
            due(x.raceAt(race, 2), n - 2);
        }
        due(x.race(2), FULL);
    }

    private static void raceStates() {
        ToteHouse x = Given.races(1);
        due(x.raceAt(0, 0), 0);
        x.off(0);
        due(x.raceAt(0, 0), 1);
        x.place(0, 1, 1);
        due(x.official(0), STATE);
        due(x.raceAt(0, 0), 1);
        Given.run(x, 0, 1, 2, 3);
        due(x.raceAt(0, 0), 2);
    }

    private static void poolNumbers() {
        ToteHouse x = Given.races(12);
        for (int race = 11; race >= 0; race--) {
            for (int kind = 3; kind >= 0; kind--) {
                due(x.book(4 * race + kind, 0), UNKNOWN);
                due(x.pool(race, kind, 0, 10), 4 * race + kind);
                due(x.book(4 * race + kind, 0), 0);
            }
        }
        due(x.count(1), 48);
        due(x.book(48, 0), UNKNOWN);
        due(x.book(49, 0), UNKNOWN);
    }

    private static void theDoubleIs48() {
        ToteHouse x = new ToteHouse();
        x.race(2);
        x.race(12);
        due(x.twin(0, 1, 0, 10), 48);
        // a is of the FIRST, b of the SECOND.
        due(x.sell(0, 48, 2, 12, 0, 1), 0);
        due(x.sell(0, 48, 3, 12, 0, 1), OUTSIDE);
        x.drawer(0, 1);
        x.keep(0, 0, 0);
        due(x.kind(0, 0), 4);
    }

    private static void deductionAndUnit() {
        int[] deductions = {0, 1, 499, 500};
        int[] units = {10, 20, 990, 1000};
        for (int deduction : deductions) {
            for (int unit : units) {
                ToteHouse x = Given.races(1);
                x.pool(0, 0, deduction, unit);
                x.sell(0, 0, 1, 0, 0, 1000);
                due(x.book(0, 0), 1000 * unit);
                Given.run(x, 0, 1, 2, 3);
                due(x.book(0, 3), deduction * unit);
            }
        }
    }

    private static void settledOnce() {
        ToteHouse x = Given.tickets();
        Given.run(x, 0, 1, 2, 3);
        long before = x.digest();
        due(x.official(0), STATE);
        due(x.digest(), before);
        due(x.pay(0), 40);
        // The other RACE settles its own and THE DOUBLE alone.
        due(Given.run(x, 1, 1, 2, 3), 5);
        due(x.book(0, 8), 40);
        due(x.book(0, 9), 40);
        due(x.ticket(0, 5), 3);
    }

    private static void tickets() {
        Doc.holds(Doc.TERMS, "TICKETS 0, 1, .. (200 at most) are of a POOL, for RUNNERS a, b, c",
                TermEdges::ticketNumbers);
        Doc.holds(Doc.TERMS, "(WIN, PLACE: a; PAIR: a and b, the lesser number first; ORDER: a, b, c, in this order;"
                + " THE DOUBLE: a of the FIRST RACE, b of the SECOND; what does not count is 0),",
                TermEdges::ticketRunners);
        Doc.holds(Doc.TERMS, "of UNITS (1 to 1000), sold at a WINDOW (0 .. 5).", TermEdges::ticketUnitsAndWindow);
        Doc.holds(Doc.TERMS, "Its STAKE is its UNITS times the POOL's UNIT.", TermEdges::ticketStake);
        Doc.holds(Doc.TERMS, "State: 0 LIVE, 1 CANCELLED, 2 REFUNDED, 3 PAID.", TermEdges::ticketStates);
    }

    private static void ticketNumbers() {
        ToteHouse x = Given.race(2);
        for (int t = 0; t < 200; t++) {
            due(x.sell(0, t % 2, 1 + t % 2, 0, 0, 1), t);
        }
        due(x.sell(0, 0, 1, 0, 0, 1), FULL);
        due(x.ticket(0, 0), 0);
        due(x.ticket(199, 0), 1);
        due(x.ticket(199, 1), 2);
        due(x.ticket(200, 0), UNKNOWN);
    }

    private static void ticketRunners() {
        ToteHouse x = new ToteHouse();
        x.race(12);
        x.race(12);
        for (int kind = 0; kind < 4; kind++) {
            x.pool(0, kind, 0, 10);
        }
        x.twin(0, 1, 0, 10);
        int[][] told = {{0, 12, 0, 0}, {1, 12, 0, 0}, {2, 12, 1, 0}, {2, 1, 12, 0}, {3, 12, 1, 11}, {3, 1, 11, 12},
            {48, 12, 1, 0}, {48, 1, 12, 0}, {48, 12, 12, 0}};
        int[][] kept = {{12, 0, 0}, {12, 0, 0}, {1, 12, 0}, {1, 12, 0}, {12, 1, 11}, {1, 11, 12}, {12, 1, 0},
            {1, 12, 0}, {12, 12, 0}};
        for (int t = 0; t < told.length; t++) {
            due(x.sell(0, told[t][0], told[t][1], told[t][2], told[t][3], 1), t);
            for (int i = 0; i < 3; i++) {
                due(x.ticket(t, 1 + i), kept[t][i]);
            }
        }
    }

    private static void ticketUnitsAndWindow() {
        ToteHouse x = Given.race(2);
        for (int units : new int[] {1, 2, 999, 1000}) {
            for (int window = 0; window <= 5; window++) {
                int t = x.sell(window, 0, 1, 0, 0, units);
                due(x.ticket(t, 4), units);
                due(x.ticket(t, 6), window);
            }
        }
        due(x.sell(0, 0, 1, 0, 0, 0), OUTSIDE);
        due(x.sell(0, 0, 1, 0, 0, 1001), OUTSIDE);
        due(x.sell(-1, 0, 1, 0, 0, 1), UNKNOWN);
        due(x.sell(6, 0, 1, 0, 0, 1), UNKNOWN);
    }

    private static void ticketStake() {
        for (int unit : new int[] {10, 990, 1000}) {
            for (int units : new int[] {1, 999, 1000}) {
                ToteHouse x = Given.races(1);
                x.pool(0, 0, 0, unit);
                x.sell(0, 0, 1, 0, 0, units);
                due(x.book(0, 0), unit * units);
                due(x.cancel(0), unit * units);
            }
        }
    }

    private static void ticketStates() {
        ToteHouse x = Given.tickets();
        for (int t = 0; t < 5; t++) {
            due(x.ticket(t, 5), 0);
        }
        x.cancel(0);
        x.scratch(0, 3);
        Given.run(x, 0, 1, 2, 0, 3);
        x.pay(1);
        int[] states = {1, 3, 0, 2, 0};
        for (int t = 0; t < 5; t++) {
            due(x.ticket(t, 5), states[t]);
        }
    }

    private static void takenOut() {
        Doc.holds(Doc.TERMS, "A RUNNER that is taken OUT: by numbers, each LIVE TICKET of the RACE's POOLS and THE"
                + " DOUBLE for that RUNNER of that RACE is REFUNDED;", TermEdges::takenOutIsRefunded);
        Doc.holds(Doc.TERMS, "but of THE DOUBLE, if that RACE has a SUBSTITUTE that is not OUT (nor this RUNNER), it"
                + " is for that one from now on.", TermEdges::takenOutIsSubstituted);
    }

    private static void takenOutIsRefunded() {
        ToteHouse x = Given.twoRaces();
        int[][] sold = {{0, 2, 0, 0}, {1, 2, 0, 0}, {2, 2, 3, 0}, {2, 1, 2, 0}, {3, 2, 1, 3}, {3, 1, 2, 3},
            {3, 1, 3, 2}, {48, 2, 1, 0}};
        int[][] other = {{0, 1, 0, 0}, {1, 3, 0, 0}, {2, 1, 3, 0}, {3, 1, 3, 4}, {48, 1, 2, 0}, {4, 2, 0, 0},
            {6, 1, 2, 0}};
        for (int[] s : sold) {
            x.sell(0, s[0], s[1], s[2], s[3], 1);
        }
        for (int[] s : other) {
            x.sell(0, s[0], s[1], s[2], s[3], 1);
        }
        // One CANCELLED before stays so.
        x.cancel(0);
        due(x.scratch(0, 2), 7);
        due(x.ticket(0, 5), 1);
        for (int t = 1; t < 8; t++) {
            due(x.ticket(t, 5), REFUNDED);
        }
        for (int t = 8; t < 15; t++) {
            due(x.ticket(t, 5), 0);
        }
        due(x.book(0, 1), 10);
        due(x.book(0, 2), 0);
        due(x.book(1, 2), 10);
        due(x.book(2, 2), 20);
        due(x.book(3, 2), 30);
        due(x.book(48, 2), 10);
    }

    private static void takenOutIsSubstituted() {
        // Of the FIRST and of the SECOND RACE, each by its own SUBSTITUTE.
        ToteHouse x = Given.twoRaces();
        x.sell(0, 48, 2, 2, 0, 3);
        x.substitute(0, 6);
        x.substitute(1, 4);
        due(x.scratch(0, 2), 1);
        due(x.ticket(0, 1), 6);
        due(x.ticket(0, 2), 2);
        due(x.scratch(1, 2), 1);
        due(x.ticket(0, 1), 6);
        due(x.ticket(0, 2), 4);
        due(x.ticket(0, 5), 0);
        due(x.units(48, 6, 4, 0), 3);
        // From now on: the SUBSTITUTE taken OUT later, another one told before.
        x.substitute(0, 5);
        due(x.scratch(0, 6), 1);
        due(x.ticket(0, 1), 5);
        // This RUNNER is the SUBSTITUTE.
        due(x.scratch(0, 5), 1);
        due(x.ticket(0, 5), REFUNDED);
        due(x.ticket(0, 1), 5);
        // The same number in both RACES: that of the RACE alone is changed.
        ToteHouse w = Given.twoRaces();
        w.sell(0, 48, 2, 2, 0, 3);
        w.substitute(1, 4);
        due(w.scratch(1, 2), 1);
        due(w.ticket(0, 1), 2);
        due(w.ticket(0, 2), 4);
        // The SUBSTITUTE is OUT already.
        ToteHouse y = Given.twoRaces();
        y.sell(0, 48, 2, 2, 0, 3);
        y.substitute(0, 6);
        due(y.scratch(0, 6), 0);
        due(y.scratch(0, 2), 1);
        due(y.ticket(0, 5), REFUNDED);
        // Of POOLS of the RACE it is REFUNDED in spite of a SUBSTITUTE.
        ToteHouse z = Given.tickets();
        z.substitute(0, 6);
        due(z.scratch(0, 1), 5);
        for (int t = 0; t < 4; t++) {
            due(z.ticket(t, 5), REFUNDED);
        }
        due(z.ticket(4, 5), 0);
        due(z.ticket(4, 1), 6);
    }

    private static void positions() {
        Doc.holds(Doc.RESULTS, "POSITIONS (1 .. 12) are told for RUNNERS of a RACE that is OFF; several RUNNERS may"
                + " have the same one.", TermEdges::positionsTold);
        Doc.holds(Doc.RESULTS, "They are RIGHT, if for each RUNNER with POSITION p just p - 1 others have a lesser"
                + " one.", TermEdges::positionsRight);
    }

    private static void positionsTold() {
        ToteHouse x = Given.race(12);
        due(x.place(0, 1, 1), STATE);
        x.off(0);
        for (int runner = 1; runner <= 12; runner++) {
            due(x.place(0, runner, 12), 0);
        }
        for (int runner = 1; runner <= 12; runner++) {
            due(x.place(0, runner, 1), 12);
        }
        due(x.place(0, 1, 13), OUTSIDE);
        due(x.official(0), 4);
    }

    /** All POSITIONS 0 .. 5 of four RUNNERS, at least three of them with one. */
    private static void positionsRight() {
        for (int code = 0; code < 6 * 6 * 6 * 6; code++) {
            int[] p = {code % 6, code / 6 % 6, code / 36 % 6, code / 216};
            int placed = 0;
            boolean right = true;
            for (int mine : p) {
                int less = 0;
                for (int other : p) {
                    less += other != 0 && other < mine ? 1 : 0;
                }
                placed += mine == 0 ? 0 : 1;
                right &= mine == 0 || less == mine - 1;
            }
            if (placed >= 3) {
                due(Given.run(Given.race(4), 0, p), right ? 4 : STATE);
            }
        }
    }

    private static void whatWins() {
        Doc.holds(Doc.RESULTS, "A ROW of RUNNERS with POSITIONS, all different, FITS, if it has as many as it is to"
                + " have, no RUNNER in it has a greater POSITION than one behind it, and none that is not in it a"
                + " lesser POSITION than one in it.", TermEdges::rowsThatFit);
        Doc.holds(Doc.RESULTS, "What WINS: WIN: each ROW of one that FITS.", TermEdges::winWins);
        Doc.holds(Doc.RESULTS, "PLACE: with 5 to 7 RUNNERS that are not OUT those with POSITIONS 1 and 2, with 8 or"
                + " more those with 1 to 3; with fewer it is VOID.", TermEdges::placeWins);
        Doc.holds(Doc.RESULTS, "PAIR: the two of each ROW of two that FITS.", TermEdges::pairWins);
        Doc.holds(Doc.RESULTS, "ORDER: each ROW of three that FITS.", TermEdges::orderWins);
        Doc.holds(Doc.RESULTS, "(With fewer than 2, 3 RUNNERS that are not OUT PAIR, ORDER are VOID.)",
                TermEdges::voidWithFew);
        Doc.holds(Doc.RESULTS, "THE DOUBLE: a WINS (as in WIN) in the FIRST RACE, b in the SECOND.",
                TermEdges::theDoubleWins);
    }

    /** Whether the ROW FITS, from the document's words; a RUNNER without POSITION has 0. */
    private static boolean fits(int[] positions, int... row) {
        for (int i = 0; i < row.length; i++) {
            int mine = positions[row[i] - 1];
            if (mine == 0) {
                return false;
            }
            for (int j = i + 1; j < row.length; j++) {
                if (row[i] == row[j] || mine > positions[row[j] - 1]) {
                    return false;
                }
            }
            for (int other = 1; other <= positions.length; other++) {
                boolean in = false;
                for (int r : row) {
                    in |= r == other;
                }
                if (!in && positions[other - 1] != 0 && positions[other - 1] < mine) {
                    return false;
                }
            }
        }
        return true;
    }

    /** RIGHT POSITIONS of five RUNNERS: with and without dead heats, some without one. */
    private static final int[][] HEATS = {{1, 2, 3, 0, 0}, {0, 0, 3, 2, 1}, {1, 1, 3, 0, 0}, {1, 2, 2, 0, 0},
        {1, 1, 1, 0, 0}, {1, 2, 3, 3, 0}, {1, 2, 3, 3, 3}, {1, 2, 2, 2, 0}, {1, 1, 3, 3, 0}, {1, 1, 1, 1, 0},
        {1, 1, 1, 1, 1}, {2, 2, 2, 2, 1}, {5, 4, 3, 2, 1}, {3, 1, 1, 3, 5}, {4, 1, 1, 1, 4}, {2, 1, 2, 4, 4}};

    private static void rowsThatFit() {
        for (int[] heat : HEATS) {
            ToteHouse x = new ToteHouse();
            x.race(5);
            x.pool(0, 3, 0, 1000);
            for (int row = 0; row < 125; row++) {
                x.sell(0, 3, 1 + row / 25, 1 + row / 5 % 5, 1 + row % 5, 1);
            }
            due(x.count(2), 60);
            due(Given.run(x, 0, heat), 1);
            for (int t = 0; t < 60; t++) {
                boolean won = fits(heat, x.ticket(t, 1), x.ticket(t, 2), x.ticket(t, 3));
                due(x.ticket(t, 7) > 0 ? 1 : 0, won ? 1 : 0);
            }
        }
    }

    private static void winWins() {
        for (int[] heat : HEATS) {
            ToteHouse x = Given.race(5);
            for (int a = 1; a <= 5; a++) {
                x.sell(0, 0, a, 0, 0, 1);
            }
            Given.run(x, 0, heat);
            for (int a = 1; a <= 5; a++) {
                due(x.dividend(0, a, 0, 0) > 0 ? 1 : 0, heat[a - 1] == 1 ? 1 : 0);
            }
        }
    }

    private static void placeWins() {
        for (int running = 3; running <= 12; running++) {
            for (int[] heat : HEATS) {
                ToteHouse x = Given.race(12);
                for (int a = 1; a <= 5; a++) {
                    x.sell(0, 1, a, 0, 0, 1);
                }
                Given.without(x, 0, running + 1, 12);
                Given.run(x, 0, heat);
                int last = running < 5 ? 0 : running < 8 ? 2 : 3;
                for (int a = 1; a <= 5 && x.raceAt(0, 0) == 2; a++) {
                    boolean won = heat[a - 1] > 0 && heat[a - 1] <= last;
                    due(x.dividend(1, a, 0, 0) > 0 ? 1 : 0, won ? 1 : 0);
                    due(x.ticket(a - 1, 5), running < 5 ? REFUNDED : 0);
                }
            }
        }
    }

    private static void pairWins() {
        for (int[] heat : HEATS) {
            ToteHouse x = Given.race(5);
            for (int a = 1; a <= 5; a++) {
                for (int b = a + 1; b <= 5; b++) {
                    x.sell(0, 2, b, a, 0, 1);
                }
            }
            Given.run(x, 0, heat);
            for (int a = 1; a <= 5; a++) {
                for (int b = 1; b <= 5; b++) {
                    if (a != b) {
                        boolean won = fits(heat, a, b) || fits(heat, b, a);
                        due(x.dividend(2, a, b, 0) > 0 ? 1 : 0, won ? 1 : 0);
                    }
                }
            }
        }
    }

    private static void orderWins() {
        // One ROW alone, and the ROWS of dead heats for each place.
        int[][] heats = {{1, 2, 3, 0}, {1, 1, 3, 0}, {1, 2, 2, 0}, {1, 2, 3, 3}, {1, 1, 1, 1}};
        int[][] turned = {{0, 0, 0}, {1, 0, 0}, {0, 1, 0}, {0, 0, 1}, {1, 1, 1}};
        for (int h = 0; h < heats.length; h++) {
            ToteHouse x = Given.race(4);
            x.sell(0, 3, 1, 2, 3, 1);
            x.sell(0, 3, 2, 1, 3, 1);
            x.sell(0, 3, 1, 3, 2, 1);
            x.sell(0, 3, 1, 2, 4, 1);
            Given.run(x, 0, heats[h]);
            due(x.ticket(0, 7) > 0 ? 1 : 0, 1);
            for (int t = 0; t < 3; t++) {
                due(x.ticket(1 + t, 7) > 0 ? 1 : 0, turned[h][t]);
            }
        }
    }

    private static void voidWithFew() {
        for (int running = 0; running <= 4; running++) {
            ToteHouse x = Given.race(4);
            x.sell(0, 2, 1, 2, 0, 1);
            x.sell(0, 3, 1, 2, 3, 1);
            x.sell(0, 0, 1, 0, 0, 1);
            Given.without(x, 0, running + 1, 4);
            int[] positions = new int[running];
            for (int i = 0; i < running; i++) {
                positions[i] = i + 1;
            }
            due(Given.run(x, 0, positions), 4);
            due(x.ticket(0, 5), running < 2 ? REFUNDED : 0);
            due(x.ticket(0, 7), running < 2 ? 0 : 10);
            due(x.ticket(1, 5), running < 3 ? REFUNDED : 0);
            due(x.ticket(1, 7), running < 3 ? 0 : 10);
            // A WIN has its winner also when it runs alone.
            due(x.ticket(2, 7), running < 1 ? 0 : 10);
        }
        // Void by those that are OUT, not by TICKETS: what came in to such an ORDER goes on.
        ToteHouse y = Given.races(3);
        for (int race = 0; race < 3; race++) {
            y.pool(race, 3, 0, 10);
        }
        y.sell(0, 3, 1, 2, 3, 1);
        Given.run(y, 0, 3, 2, 1);
        Given.without(y, 1, 3, 4);
        due(y.scratch(1, 4), GONE);
        Given.run(y, 1, 1, 2);
        due(y.raceAt(2, 4), 10);
    }

    private static void theDoubleWinsWithFew() {
        for (int left = 1; left <= 2; left++) {
            ToteHouse x = Given.races(2);
            x.twin(0, 1, 0, 10);
            x.sell(0, 48, 1, 1, 0, 1);
            x.sell(0, 48, 1, 2, 0, 1);
            Given.without(x, 0, left + 1, 4);
            Given.without(x, 1, 3, 4);
            Given.run(x, 0, 1, 2);
            Given.run(x, 1, 1, 2);
            due(x.ticket(0, 7), 20);
            due(x.ticket(1, 7), 0);
        }
    }

    private static void theDoubleWins() {
        theDoubleWinsWithFew();
        for (int first = 0; first < HEATS.length; first++) {
            int second = (first * 7 + 3) % HEATS.length;
            ToteHouse x = new ToteHouse();
            x.race(5);
            x.race(5);
            x.twin(0, 1, 0, 1000);
            for (int a = 1; a <= 5; a++) {
                for (int b = 1; b <= 5; b++) {
                    x.sell(0, 48, a, b, 0, 1);
                }
            }
            Given.run(x, 0, HEATS[first]);
            Given.run(x, 1, HEATS[second]);
            for (int t = 0; t < 25; t++) {
                boolean won = HEATS[first][t / 5] == 1 && HEATS[second][t % 5] == 1;
                due(x.ticket(t, 7) > 0 ? 1 : 0, won ? 1 : 0);
            }
        }
    }
}
