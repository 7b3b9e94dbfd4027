/** 4 FINDINGS, sentence by sentence. */
final class FindingEdges {
    private static final int UNKNOWN = ToteHouse.UNKNOWN, OUTSIDE = ToteHouse.OUTSIDE, NONE = ToteHouse.NONE;
    private static final int NULL = -11, INDEX = -12, CAST = -13, STORE = -14, SIZE = -15, ZERO = -16;
    private static final int NO_NUMBER = 0x7FC00000;

    private FindingEdges() {
    }

    private static void due(long got, long want) {
        Check.due(got, want);
    }

    static void all() {
        findings();
        drawersAndSatchels();
        laps();
        bodies();
        Doc.holds(Doc.FINDINGS, "Numbers of RACES, POOLS, TICKETS that are none: UNKNOWN; a RUNNER that is none, what"
                + " does not count and is not 0: OUTSIDE.", FindingEdges::numbersOfNothing);
    }

    /** WINDOW 0: TICKETS 0 .. 4 by KIND, a NOTE of 2, a ROW of 2, NOTHING; SATCHEL 0 of FORM 0 with 2 places. */
    private static ToteHouse filled() {
        ToteHouse x = Given.tickets();
        x.drawer(0, 8);
        for (int t = 0; t < 5; t++) {
            x.keep(0, t, t);
        }
        x.note(0, 5, 0x00410042L, 2);
        x.coins(0, 6, 2);
        x.satchel(0, 0, 2);
        x.lap(0, 0x3F800000);
        return x;
    }

    private static void findings() {
        Doc.holds(Doc.FINDINGS, "FINDINGS are what an act meets; it answers -10 less its number, and changes nothing"
                + " but as told:", FindingEdges::findingsChangeNothing);
        Doc.holds(Doc.FINDINGS, "1 NULL: the DRAWER is LOST, a SLIP holds NOTHING, there is no SATCHEL;",
                FindingEdges::nullFound);
        Doc.holds(Doc.FINDINGS, "2 INDEX: there is no such SLIP, CHAR, COIN, place, LAP;", FindingEdges::indexFound);
        Doc.holds(Doc.FINDINGS, "3 CAST: a SLIP holds something else;", FindingEdges::castFound);
        Doc.holds(Doc.FINDINGS, "4 STORE: a SATCHEL does not take it;", FindingEdges::storeFound);
        Doc.holds(Doc.FINDINGS, "5 SIZE: below 0;", FindingEdges::sizeFound);
        Doc.holds(Doc.FINDINGS, "6 ZERO: by nothing.", FindingEdges::zeroFound);
    }

    private static void findingsChangeNothing() {
        ToteHouse x = filled();
        x.coin(0, 6, 0, 5);
        long before = x.digest();
        due(x.drawer(0, -1), SIZE);
        due(x.coins(0, 0, -1), SIZE);
        due(x.satchel(0, 0, -1), SIZE);
        due(x.coin(0, 6, 2, 9), INDEX);
        due(x.coin(0, 0, 0, 9), CAST);
        due(x.keep(0, 8, 0), INDEX);
        due(x.gather(0, 0, 0, 5, 1), STORE);
        due(x.change(0, 6, 0, 1), 0);
        due(x.digest(), before);
        int[] kinds = {0, 1, 2, 3, 4, 5, 6, NONE};
        for (int i = 0; i < 8; i++) {
            due(x.kind(0, i), kinds[i]);
        }
        due(x.coinAt(0, 6, 0), 5);
        due(x.held(0, 1), NONE);
    }

    /** The FINDING of this number was met once more, and is the latest. */
    private static void met(ToteHouse x, int times, int number) {
        due(x.finding(), number);
        due(x.count(10 + number), times);
    }

    private static void nullFound() {
        ToteHouse x = filled();
        due(x.kind(5, 0), NULL);
        met(x, 1, 1);
        due(x.read(0, 7), NULL);
        met(x, 2, 1);
        due(x.letter(0, 7, 0), NULL);
        due(x.coin(0, 7, 0, 1), NULL);
        met(x, 4, 1);
        due(x.held(1, 0), NULL);
        due(x.cash(1), NULL);
        due(x.gather(1, 0, 0, 0, 1), NULL);
        due(x.shift(1, 0, 0, 0, 1), NULL);
        due(x.shift(0, 0, 1, 0, 1), NULL);
        met(x, 9, 1);
        for (int f = 2; f <= 6; f++) {
            due(x.count(10 + f), 0);
        }
    }

    private static void indexFound() {
        ToteHouse x = filled();
        due(x.kind(0, 8), INDEX);
        due(x.kind(0, -1), INDEX);
        due(x.letter(0, 5, 2), INDEX);
        due(x.letter(0, 5, -1), INDEX);
        due(x.coin(0, 6, 2, 1), INDEX);
        due(x.coin(0, 6, -1, 1), INDEX);
        due(x.held(0, 2), INDEX);
        due(x.held(0, -1), INDEX);
        met(x, 8, 2);
        due(x.lapAt(0, 1), 0);
        due(x.lapAt(0, -1), 0);
        due(x.remainder(0, 1, 1), 0);
        due(x.coinAt(0, 6, 2), 0);
        due(x.change(0, 6, 2, 0), 0);
        met(x, 13, 2);
    }

    private static void castFound() {
        ToteHouse x = filled();
        for (int i = 0; i < 7; i++) {
            due(x.read(0, i), i < 5 ? i : CAST);
            due(x.letter(0, i, 0), i == 5 ? 'A' : CAST);
            due(x.coin(0, i, 0, 1), i == 6 ? 1 : CAST);
        }
        met(x, 2 + 6 + 6, 3);
    }

    private static void storeFound() {
        ToteHouse x = filled();
        due(x.gather(0, 0, 0, 5, 1), STORE);
        due(x.gather(0, 0, 0, 6, 1), STORE);
        x.satchel(1, 4, 1);
        due(x.gather(1, 0, 0, 0, 1), STORE);
        due(x.gather(0, 0, 0, 0, 1), 1);
        due(x.shift(0, 0, 1, 0, 1), STORE);
        met(x, 4, 4);
    }

    private static void sizeFound() {
        ToteHouse x = filled();
        due(x.drawer(0, -1), SIZE);
        due(x.coins(0, 0, Given.LEAST), SIZE);
        due(x.satchel(0, 0, -1), SIZE);
        met(x, 3, 5);
        // 0 is not below 0.
        due(x.coins(0, 0, 0), 0);
        due(x.satchel(0, 0, 0), 0);
        due(x.drawer(0, 0), 0);
        met(x, 3, 5);
    }

    private static void zeroFound() {
        ToteHouse x = filled();
        due(x.change(0, 6, 0, 1), 0);
        met(x, 1, 6);
        due(new ToteHouse().premium(0), ZERO);
        // By something the quotient may be 0, and that is no FINDING.
        x.coin(0, 6, 1, 5);
        due(x.change(0, 6, 0, 1), 0);
        due(x.premium(0), 0);
        met(x, 1, 6);
    }

    private static void drawersAndSatchels() {
        Doc.holds(Doc.FINDINGS, "DRAWERS of WINDOWS (LOST at first) are rows of 0 to 12 SLIPS;",
                FindingEdges::drawerSizes);
        Doc.holds(Doc.FINDINGS, "each holds NOTHING (at first), a TICKET, a NOTE (1 to 4 CHARS) or a ROW of COINS"
                + " (ints, 8 at most).", FindingEdges::slipContents);
        Doc.holds(Doc.FINDINGS, "SATCHELS 0 .. 3 (none at first) of a FORM have 0 to 10 places with a TICKET or"
                + " NOTHING:", FindingEdges::satchelSizes);
        Doc.holds(Doc.FINDINGS, "FORM 0 takes TICKETS, 1 those of WIN (and of PLACE: these are such, too), 2 of PAIR"
                + " (and of ORDER, likewise), 3 of ORDER, 4 of THE DOUBLE, 5 of PLACE.", FindingEdges::forms);
        Doc.holds(Doc.FINDINGS, "Each takes NOTHING, too; none takes a NOTE, a ROW.", FindingEdges::formsOfOther);
    }

    private static void drawerSizes() {
        ToteHouse x = new ToteHouse();
        for (int window = 0; window < 6; window++) {
            due(x.lose(window), NULL);
        }
        for (int n = 0; n <= 12; n++) {
            due(x.drawer(3, n), n);
            due(x.lose(3), n);
        }
        due(x.drawer(3, 13), OUTSIDE);
        due(x.drawer(3, -1), SIZE);
        due(x.drawer(6, 1), UNKNOWN);
        due(x.lose(3), NULL);
    }

    private static void slipContents() {
        ToteHouse x = filled();
        x.drawer(1, 12);
        for (int i = 0; i < 12; i++) {
            due(x.kind(1, i), NONE);
        }
        due(x.note(1, 0, 1L, 0), OUTSIDE);
        due(x.note(1, 0, 1L, 5), OUTSIDE);
        due(x.note(1, 0, 1L, 1), 1);
        due(x.note(1, 11, 1L, 4), 4);
        due(x.coins(1, 1, 9), OUTSIDE);
        due(x.coins(1, 1, 8), 8);
        due(x.coins(1, 10, 0), 0);
        due(x.coin(1, 1, 7, Given.LEAST), 1);
        due(x.coinAt(1, 1, 7), Given.LEAST);
        due(x.coin(1, 1, 0, Given.MOST), 1);
        due(x.coinAt(1, 1, 0), Given.MOST);
    }

    private static void satchelSizes() {
        ToteHouse x = filled();
        for (int s = 1; s < 4; s++) {
            due(x.held(s, 0), NULL);
        }
        for (int s = 0; s < 4; s++) {
            due(x.satchel(s, s, 0), 0);
            due(x.held(s, 0), INDEX);
            due(x.satchel(s, s, 10), 10);
            for (int place = 0; place < 10; place++) {
                due(x.held(s, place), NONE);
            }
            due(x.held(s, 10), INDEX);
            due(x.satchel(s, s, 11), OUTSIDE);
        }
        due(x.satchel(4, 0, 1), UNKNOWN);
        due(x.satchel(-1, 0, 1), UNKNOWN);
    }

    private static void forms() {
        String[] takes = {"01234", "01", "23", "3", "4", "1"};
        for (int form = 0; form < 6; form++) {
            for (int kind = 0; kind < 5; kind++) {
                ToteHouse x = filled();
                x.satchel(1, form, 1);
                boolean takesIt = takes[form].indexOf('0' + kind) >= 0;
                due(x.gather(1, 0, 0, kind, 1), takesIt ? 1 : STORE);
                due(x.held(1, 0), takesIt ? kind : NONE);
                x.gather(0, 0, 0, kind, 1);
                due(x.shift(0, 0, 1, 0, 1), takesIt ? 1 : STORE);
                due(x.held(1, 0), takesIt ? kind : NONE);
            }
        }
    }

    private static void formsOfOther() {
        for (int form = 0; form < 6; form++) {
            ToteHouse x = filled();
            x.satchel(1, form, 1);
            int own = new int[] {0, 1, 3, 3, 4, 1}[form];
            due(x.gather(1, 0, 0, own, 1), 1);
            due(x.gather(1, 0, 0, 5, 1), STORE);
            due(x.gather(1, 0, 0, 6, 1), STORE);
            due(x.held(1, 0), own);
            due(x.gather(1, 0, 0, 7, 1), 1);
            due(x.held(1, 0), NONE);
            due(x.shift(0, 1, 1, 0, 1), 1);
        }
    }

    private static void laps() {
        Doc.holds(Doc.FINDINGS, "LAPS of a RACE (12 at most) are floats, told by 32 bits; what is no number by"
                + " 0x7FC00000 alone, whatever bits came.", FindingEdges::lapsByBits);
        Doc.holds(Doc.FINDINGS, "NUMBERS are those that are neither that nor endless.", FindingEdges::numbers);
    }

    private static void lapsByBits() {
        int[] edges = {0x7F800000, 0x7F800001, 0x7FBFFFFF, 0x7FC00000, 0x7FFFFFFF, 0xFF800000, 0xFF800001, 0xFFC00000,
            0xFFFFFFFF, 0x7F7FFFFF, 0xFF7FFFFF, 0x80000000};
        ToteHouse x = Given.races(1);
        for (int k = 0; k < 12; k++) {
            due(x.lap(0, edges[k]), k + 1);
        }
        due(x.lap(0, 0), ToteHouse.FULL);
        for (int k = 0; k < 12; k++) {
            boolean none = Float.isNaN(Float.intBitsToFloat(edges[k]));
            due(x.lapAt(0, k), none ? NO_NUMBER : edges[k]);
        }
    }

    private static void numbers() {
        int[] bits = {0, 0x80000000, 1, 0x7F7FFFFF, 0xFF7FFFFF, 0x7F800000, 0xFF800000, 0x7F800001, 0xFFFFFFFF};
        int[] areNumbers = {1, 1, 1, 1, 1, 0, 0, 0, 0};
        for (int i = 0; i < bits.length; i++) {
            ToteHouse x = Given.races(1);
            x.lap(0, bits[i]);
            due(x.pace(0, 4), areNumbers[i]);
            due(x.pace(0, 2), areNumbers[i] == 1 ? bits[i] : NO_NUMBER);
        }
    }

    private static void bodies() {
        Doc.holds(Doc.FINDINGS, "BODIES, each of which writes its number behind THE TRACE as it begins (100 at most;"
                + " emptied by each call of ask(), also one that is refused):", FindingEdges::traceIsEmptied);
        Doc.holds(Doc.FINDINGS, "WEIGHT: WIN (10) its UNITS;", FindingEdges::winWeight);
        Doc.holds(Doc.FINDINGS, "PLACE (11) what a WIN does (10 follows), by 2, cut;", FindingEdges::placeWeight);
        Doc.holds(Doc.FINDINGS, "PAIR (12) its UNITS (10 follows) by 3 times;", FindingEdges::pairWeight);
        Doc.holds(Doc.FINDINGS, "ORDER (13) twice what a PAIR does (12 and what follows it);",
                FindingEdges::orderWeight);
        Doc.holds(Doc.FINDINGS, "DOUBLE (14) its UNITS (10 follows) and 1.", FindingEdges::doubleWeight);
        Doc.holds(Doc.FINDINGS, "POINTS: of all (20) 5 times the WEIGHT (what tells that follows);",
                FindingEdges::commonPoints);
        Doc.holds(Doc.FINDINGS, "but ORDER (21) that (20 and what follows it) less 7;", FindingEdges::orderPoints);
        Doc.holds(Doc.FINDINGS, "PLACE (22) 3, when it has just one UNIT, else what all do (20 and what follows it).",
                FindingEdges::placePoints);
    }

    private static final int[] UNITS = {1, 2, 3, 999, 1000};

    private static ToteHouse withUnits(int units) {
        ToteHouse x = Given.twoRaces();
        x.sell(0, 0, 1, 0, 0, units);
        x.sell(0, 1, 1, 0, 0, units);
        x.sell(0, 2, 1, 2, 0, units);
        x.sell(0, 3, 1, 2, 3, units);
        x.sell(0, 48, 1, 1, 0, units);
        return x;
    }

    private static void asked(ToteHouse x, int ticket, int what, int answer, int... trace) {
        due(x.ask(ticket, what), answer);
        due(x.count(4), trace.length);
        for (int k = 0; k < trace.length; k++) {
            due(x.trace(k), trace[k]);
        }
        due(x.trace(trace.length), NONE);
    }

    private static void traceIsEmptied() {
        ToteHouse x = withUnits(1);
        asked(x, 3, 1, 23, 21, 20, 13, 12, 10);
        asked(x, 3, 1, 23, 21, 20, 13, 12, 10);
        asked(x, 0, 0, 1, 10);
        asked(x, 3, 1, 23, 21, 20, 13, 12, 10);
        asked(x, 5, 0, UNKNOWN);
        asked(x, 3, 1, 23, 21, 20, 13, 12, 10);
        asked(x, 3, 2, OUTSIDE);
        // As each call empties it, it never has more than five of its hundred, however many are asked.
        for (int i = 0; i < 100; i++) {
            due(x.ask(3, 1), 23);
        }
        due(x.count(4), 5);
        due(x.trace(5), NONE);
    }

    private static void winWeight() {
        for (int u : UNITS) {
            asked(withUnits(u), 0, 0, u, 10);
        }
    }

    private static void placeWeight() {
        int[] halves = {0, 1, 1, 499, 500};
        for (int i = 0; i < UNITS.length; i++) {
            asked(withUnits(UNITS[i]), 1, 0, halves[i], 11, 10);
        }
    }

    private static void pairWeight() {
        for (int u : UNITS) {
            asked(withUnits(u), 2, 0, 3 * u, 12, 10);
        }
    }

    private static void orderWeight() {
        for (int u : UNITS) {
            asked(withUnits(u), 3, 0, 6 * u, 13, 12, 10);
        }
    }

    private static void doubleWeight() {
        for (int u : UNITS) {
            asked(withUnits(u), 4, 0, u + 1, 14, 10);
        }
    }

    private static void commonPoints() {
        for (int u : UNITS) {
            asked(withUnits(u), 0, 1, 5 * u, 20, 10);
            asked(withUnits(u), 2, 1, 15 * u, 20, 12, 10);
            asked(withUnits(u), 4, 1, 5 * u + 5, 20, 14, 10);
        }
    }

    private static void orderPoints() {
        for (int u : UNITS) {
            asked(withUnits(u), 3, 1, 30 * u - 7, 21, 20, 13, 12, 10);
        }
    }

    private static void placePoints() {
        int[] points = {3, 5, 5, 2495, 2500};
        asked(withUnits(1), 1, 1, 3, 22);
        for (int i = 1; i < UNITS.length; i++) {
            asked(withUnits(UNITS[i]), 1, 1, points[i], 22, 20, 11, 10);
        }
    }

    private static void numbersOfNothing() {
        ToteHouse x = Given.tickets();
        for (int wild : Given.WILD) {
            due(x.raceAt(wild, 0), UNKNOWN);
            due(x.book(wild, 0), UNKNOWN);
            due(x.ticket(wild, 0), UNKNOWN);
            due(x.scratch(0, wild), OUTSIDE);
            due(x.units(0, 1, wild, 0), OUTSIDE);
            due(x.units(0, 1, 0, wild), OUTSIDE);
        }
        due(x.raceAt(2, 0), UNKNOWN);
        due(x.book(8, 0), UNKNOWN);
        due(x.ticket(5, 0), UNKNOWN);
        due(x.scratch(0, 7), OUTSIDE);
        due(x.scratch(0, 0), OUTSIDE);
        // What does not count is refused even if it is a RUNNER.
        due(x.units(0, 1, 1, 0), OUTSIDE);
        due(x.units(1, 1, 0, 1), OUTSIDE);
        due(x.units(2, 1, 2, 3), OUTSIDE);
        due(x.units(48, 1, 1, 1), OUTSIDE);
    }
}
