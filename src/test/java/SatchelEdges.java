/** Promises 36 to 41, sentence by sentence. */
final class SatchelEdges {
    private static final int UNKNOWN = ToteHouse.UNKNOWN, OUTSIDE = ToteHouse.OUTSIDE, NONE = ToteHouse.NONE;
    private static final int NULL = -11, INDEX = -12, STORE = -14, SIZE = -15;
    private static final int LEAST = Given.LEAST, MOST = Given.MOST;
    private static final int[] NO_WINDOWS = {-1, 6, LEAST, 1 << 30, MOST};
    private static final int[] NO_SATCHELS = {-1, 4, 5, LEAST, LEAST + 1, -4, 1 << 30, MOST};
    /** Places that a SATCHEL of 10 does not have; from the last ones counting on wraps around. */
    private static final int[] NO_PLACES = {-1, 10, 11, LEAST, LEAST + 1, LEAST + 10, -10, 1 << 30, MOST - 9, MOST - 1,
        MOST};

    private SatchelEdges() {
    }

    private static void due(long got, long want) {
        Check.due(got, want);
    }

    static void all() {
        satchels();
        gathers();
        shifts();
        arrivals();
        looks();
        cashes();
    }

    /** WINDOW 0 has 12 SLIPS: 0 .. 4 and 5 .. 9 TICKETS 0 .. 4 by KIND, 10 NOTHING, 11 a NOTE. WINDOW 1's is LOST. */
    private static ToteHouse filled() {
        ToteHouse x = Given.tickets();
        x.drawer(0, 12);
        for (int i = 0; i < 10; i++) {
            x.keep(0, i, i % 5);
        }
        x.note(0, 11, 65L, 1);
        return x;
    }

    /** SATCHEL 0 of FORM 0 with these TICKETS of filled() at its places, SATCHEL 3 of FORM 0 with 10 empty places. */
    private static ToteHouse packed(int places) {
        ToteHouse x = filled();
        x.satchel(0, 0, places);
        x.gather(0, 0, 0, 0, places);
        x.satchel(3, 0, 10);
        return x;
    }

    private static void holds(ToteHouse x, int s, int... tickets) {
        for (int place = 0; place < tickets.length; place++) {
            due(x.held(s, place), tickets[place]);
        }
    }

    private static void satchels() {
        Doc.promise(36, "SATCHEL s (0 .. 3) is a new one of a FORM 0 .. 5 with n places: n.",
                SatchelEdges::satchelTaken);
        Doc.promise(36, "UNKNOWN;", SatchelEdges::satchelUnknown);
        Doc.promise(36, "OUTSIDE: the FORM, n is above 10;", SatchelEdges::satchelOutside);
        Doc.promise(36, "SIZE.", SatchelEdges::satchelSize);
    }

    private static void satchelTaken() {
        for (int s = 0; s < 4; s++) {
            for (int form = 0; form < 6; form++) {
                ToteHouse x = new ToteHouse();
                for (int n = 0; n <= 10; n++) {
                    due(x.satchel(s, form, n), n);
                    due(x.held(s, n - 1), n == 0 ? INDEX : NONE);
                    due(x.held(s, n), INDEX);
                }
            }
        }
        // A new one has nothing of the one that was there, and may be of another FORM.
        ToteHouse y = packed(10);
        due(y.satchel(0, 3, 10), 10);
        holds(y, 0, NONE, NONE, NONE, NONE, NONE, NONE, NONE, NONE, NONE, NONE);
        due(y.gather(0, 0, 0, 0, 1), STORE);
    }

    private static void satchelUnknown() {
        ToteHouse x = new ToteHouse();
        for (int s : NO_SATCHELS) {
            due(x.satchel(s, 0, 1), UNKNOWN);
        }
        due(x.finding(), 0);
    }

    private static void satchelOutside() {
        ToteHouse x = packed(10);
        for (int form : new int[] {-1, 6, LEAST, MOST, 1 << 30}) {
            due(x.satchel(0, form, 1), OUTSIDE);
        }
        for (int n : new int[] {11, 12, 1 << 30, MOST}) {
            due(x.satchel(0, 0, n), OUTSIDE);
            due(x.satchel(1, 0, n), OUTSIDE);
        }
        due(x.finding(), 0);
        due(x.held(0, 9), 4);
        due(x.held(1, 0), NULL);
    }

    private static void satchelSize() {
        ToteHouse x = packed(10);
        for (int n : new int[] {-1, -10, -(1 << 30), LEAST + 1, LEAST}) {
            due(x.satchel(0, 0, n), SIZE);
            due(x.satchel(1, 5, n), SIZE);
        }
        due(x.count(15), 10);
        due(x.held(0, 9), 4);
        due(x.held(1, 0), NULL);
    }

    private static void gathers() {
        Doc.promise(37, "What n SLIPS (0 .. 12) of a WINDOW hold, from SLIP i on, comes into SATCHEL s, too, one by"
                + " one, from place at on: n;", SatchelEdges::gathered);
        Doc.promise(37, "(0 .. 12)", SatchelEdges::gatheredNone);
        Doc.promise(37, "those ahead of one with a FINDING are there.", SatchelEdges::gatheredInPart);
        Doc.promise(37, "UNKNOWN: SATCHEL, WINDOW;", SatchelEdges::gatherUnknown);
        Doc.promise(37, "OUTSIDE: n;", SatchelEdges::gatherOutside);
        Doc.promise(37, "of each one: NULL, INDEX (the SLIP),", SatchelEdges::gatherNoSlip);
        Doc.promise(37, "NULL (the SATCHEL), INDEX (the place),", SatchelEdges::gatherNoPlace);
        Doc.promise(37, "STORE.", SatchelEdges::gatherStore);
    }

    private static void gathered() {
        ToteHouse x = filled();
        x.satchel(0, 0, 10);
        due(x.gather(0, 0, 0, 0, 10), 10);
        holds(x, 0, 0, 1, 2, 3, 4, 0, 1, 2, 3, 4);
        due(x.came(), 10);
        due(x.gather(0, 9, 0, 10, 1), 1);
        due(x.held(0, 9), NONE);
        due(x.gather(0, 9, 0, 0, 1), 1);
        due(x.gather(0, 0, 0, 9, 2), 2);
        holds(x, 0, 4, NONE, 2, 3, 4, 0, 1, 2, 3, 0);
        // The SLIPS hold it, too.
        due(x.read(0, 9), 4);
        due(x.kind(0, 10), NONE);
    }

    private static void gatheredNone() {
        ToteHouse x = packed(3);
        due(x.came(), 3);
        due(x.gather(0, 0, 0, 0, 0), 0);
        due(x.came(), 0);
        // Of none nothing is looked at: no DRAWER, SLIP, SATCHEL, place.
        for (int wild : new int[] {LEAST, -1, 0, 12, MOST}) {
            due(x.gather(2, wild, 1, wild, 0), 0);
            due(x.gather(0, wild, 0, wild, 0), 0);
        }
        due(x.finding(), 0);
        holds(x, 0, 0, 1, 2);
    }

    private static void gatheredInPart() {
        ToteHouse x = filled();
        x.satchel(0, 0, 10);
        // The SLIPS end: the place of the thirteenth is not reached.
        x.clear(0, 11);
        due(x.gather(0, 0, 0, 3, 12), INDEX);
        due(x.came(), 9);
        holds(x, 0, 3, 4, 0, 1, 2, 3, 4, NONE, NONE, NONE);
        // The places end.
        due(x.gather(0, 8, 0, 0, 12), INDEX);
        due(x.came(), 2);
        holds(x, 0, 3, 4, 0, 1, 2, 3, 4, NONE, 0, 1);
        // The ones behind a FINDING do not come, even if they could.
        x.satchel(1, 1, 10);
        due(x.gather(1, 0, 0, 0, 7), STORE);
        due(x.came(), 2);
        holds(x, 1, 0, 1, NONE, NONE, NONE, NONE, NONE);
        x.drawer(2, 12);
        x.satchel(2, 0, 10);
        due(x.gather(2, 0, 2, 0, 12), INDEX);
        due(x.came(), 10);
        due(x.count(12), 3);
        due(x.count(14), 1);
    }

    private static void gatherUnknown() {
        ToteHouse x = packed(3);
        for (int s : NO_SATCHELS) {
            due(x.gather(s, 0, 0, 0, 1), UNKNOWN);
            due(x.gather(s, 0, 0, 0, 0), UNKNOWN);
        }
        for (int window : NO_WINDOWS) {
            due(x.gather(0, 0, window, 0, 1), UNKNOWN);
            due(x.gather(0, 0, window, 0, 0), UNKNOWN);
        }
        due(x.finding(), 0);
        due(x.came(), 3);
    }

    private static void gatherOutside() {
        ToteHouse x = packed(3);
        for (int n : new int[] {-1, 13, LEAST, LEAST + 12, 1 << 30, MOST}) {
            due(x.gather(0, 0, 0, 0, n), OUTSIDE);
            due(x.gather(1, -1, 1, -1, n), OUTSIDE);
        }
        due(x.finding(), 0);
        due(x.came(), 3);
    }

    private static void gatherNoSlip() {
        ToteHouse x = packed(10);
        due(x.gather(0, 0, 1, 0, 1), NULL);
        due(x.came(), 0);
        due(x.gather(1, -1, 1, -1, 12), NULL);
        due(x.count(11), 2);
        for (int i : new int[] {-1, 12, LEAST, LEAST + 11, 1 << 30, MOST - 11, MOST}) {
            due(x.gather(0, 0, 0, i, 1), INDEX);
            due(x.gather(0, 0, 0, i, 12), INDEX);
            due(x.came(), 0);
        }
        // From -1 on the second one would be a SLIP.
        due(x.gather(0, 0, 0, -1, 2), INDEX);
        x.drawer(2, 0);
        due(x.gather(0, 0, 2, 0, 1), INDEX);
        due(x.held(0, 0), 0);
    }

    private static void gatherNoPlace() {
        ToteHouse x = filled();
        due(x.gather(1, 0, 0, 0, 1), NULL);
        due(x.gather(1, 0, 0, 11, 1), NULL);
        due(x.gather(1, -1, 0, 0, 1), NULL);
        due(x.count(11), 3);
        x.satchel(0, 0, 10);
        for (int at : NO_PLACES) {
            due(x.gather(0, at, 0, 0, 1), INDEX);
            due(x.gather(0, at, 0, 0, 12), INDEX);
            due(x.came(), 0);
        }
        due(x.gather(0, -1, 0, 11, 1), INDEX);
        x.satchel(2, 0, 0);
        due(x.gather(2, 0, 0, 10, 1), INDEX);
        holds(x, 0, NONE, NONE, NONE, NONE, NONE, NONE, NONE, NONE, NONE, NONE);
    }

    private static void gatherStore() {
        for (int form = 0; form < 6; form++) {
            ToteHouse x = filled();
            x.coins(0, 9, 0);
            x.satchel(1, form, 2);
            due(x.gather(1, 0, 0, 11, 1), STORE);
            due(x.gather(1, 0, 0, 9, 1), STORE);
            due(x.gather(1, 1, 0, 9, 1), STORE);
            due(x.count(14), 3);
            due(x.came(), 0);
            // What was at the place stays.
            int own = form == 0 ? 0 : new int[] {0, 0, 2, 3, 4, 1}[form];
            due(x.gather(1, 0, 0, own, 1), 1);
            due(x.gather(1, 0, 0, 11, 1), STORE);
            due(x.held(1, 0), own);
        }
    }

    private static void shifts() {
        Doc.promise(38, "What n places (0 .. 10) of SATCHEL s have, from i on, as they were, comes to SATCHEL t, too"
                + " (perhaps s itself), one by one, from j on: n;", SatchelEdges::shifted);
        Doc.promise(38, "as they were, comes to SATCHEL t, too (perhaps s itself)", SatchelEdges::shiftedWithin);
        Doc.promise(38, "(0 .. 10)", SatchelEdges::shiftedNone);
        Doc.promise(38, "those ahead of one with a FINDING are there.", SatchelEdges::shiftedInPart);
        Doc.promise(38, "UNKNOWN: s, t;", SatchelEdges::shiftUnknown);
        Doc.promise(38, "OUTSIDE: n;", SatchelEdges::shiftOutside);
        Doc.promise(38, "NULL: s, t;", SatchelEdges::shiftNull);
        Doc.promise(38, "of each one: INDEX (of s, then of t),", SatchelEdges::shiftIndex);
        Doc.promise(38, "STORE.", SatchelEdges::shiftStore);
    }

    private static void shifted() {
        ToteHouse x = packed(10);
        due(x.shift(0, 0, 3, 0, 10), 10);
        due(x.came(), 10);
        holds(x, 3, 0, 1, 2, 3, 4, 0, 1, 2, 3, 4);
        holds(x, 0, 0, 1, 2, 3, 4, 0, 1, 2, 3, 4);
        due(x.shift(0, 9, 3, 0, 1), 1);
        due(x.shift(0, 0, 3, 9, 1), 1);
        holds(x, 3, 4, 1, 2, 3, 4, 0, 1, 2, 3, 0);
        // NOTHING comes, too.
        x.satchel(1, 3, 1);
        due(x.shift(1, 0, 3, 0, 1), 1);
        due(x.held(3, 0), NONE);
    }

    private static void shiftedWithin() {
        int[] all = {0, 1, 2, 3, 4, 0, 1, 2, 3, 4};
        for (int i = 0; i < 10; i++) {
            for (int j = 0; j < 10; j++) {
                ToteHouse x = packed(10);
                int n = 10 - Math.max(i, j);
                due(x.shift(0, i, 0, j, n), n);
                for (int place = 0; place < 10; place++) {
                    due(x.held(0, place), place >= j && place < j + n ? all[place - j + i] : all[place]);
                }
            }
        }
    }

    private static void shiftedNone() {
        ToteHouse x = packed(3);
        due(x.came(), 3);
        due(x.shift(0, 0, 3, 0, 0), 0);
        due(x.came(), 0);
        for (int wild : NO_PLACES) {
            due(x.shift(0, wild, 3, wild, 0), 0);
            due(x.shift(0, wild, 0, wild, 0), 0);
        }
        due(x.finding(), 0);
        due(x.held(3, 0), NONE);
    }

    private static void shiftedInPart() {
        ToteHouse x = packed(10);
        // The places of s end, those of t end, one is not taken.
        due(x.shift(0, 8, 3, 0, 10), INDEX);
        due(x.came(), 2);
        holds(x, 3, 3, 4, NONE, NONE);
        due(x.shift(0, 0, 3, 7, 10), INDEX);
        due(x.came(), 3);
        holds(x, 3, 3, 4, NONE, NONE, NONE, NONE, NONE, 0, 1, 2);
        x.satchel(1, 1, 10);
        due(x.shift(0, 0, 1, 0, 10), STORE);
        due(x.came(), 2);
        holds(x, 1, 0, 1, NONE, NONE, NONE, NONE, NONE);
        // Within one: what came is as it was before.
        due(x.shift(0, 0, 0, 4, 10), INDEX);
        due(x.came(), 6);
        holds(x, 0, 0, 1, 2, 3, 0, 1, 2, 3, 4, 0);
    }

    private static void shiftUnknown() {
        ToteHouse x = packed(3);
        for (int s : NO_SATCHELS) {
            for (int n = 0; n < 2; n++) {
                due(x.shift(s, 0, 3, 0, n), UNKNOWN);
                due(x.shift(3, 0, s, 0, n), UNKNOWN);
                due(x.shift(s, 0, s, 0, n), UNKNOWN);
            }
        }
        due(x.finding(), 0);
        due(x.came(), 3);
    }

    private static void shiftOutside() {
        ToteHouse x = packed(3);
        for (int n : new int[] {-1, 11, LEAST, LEAST + 10, 1 << 30, MOST}) {
            due(x.shift(0, 0, 3, 0, n), OUTSIDE);
            due(x.shift(1, -1, 2, -1, n), OUTSIDE);
        }
        due(x.finding(), 0);
        due(x.came(), 3);
    }

    private static void shiftNull() {
        ToteHouse x = packed(3);
        for (int n = 0; n <= 10; n += 5) {
            due(x.shift(1, 0, 0, 0, n), NULL);
            due(x.came(), 0);
            due(x.shift(0, 0, 1, 0, n), NULL);
            due(x.shift(1, -1, 1, -1, n), NULL);
            due(x.shift(1, 0, 2, 0, n), NULL);
        }
        due(x.count(11), 12);
    }

    private static void shiftIndex() {
        ToteHouse x = packed(10);
        for (int wild : NO_PLACES) {
            due(x.shift(0, wild, 3, 0, 1), INDEX);
            due(x.shift(0, wild, 3, 0, 10), INDEX);
            due(x.shift(0, 0, 3, wild, 1), INDEX);
            due(x.shift(0, 0, 3, wild, 10), INDEX);
            due(x.shift(0, wild, 3, wild, 10), INDEX);
            due(x.shift(0, wild, 0, 0, 10), INDEX);
            due(x.shift(0, 0, 0, wild, 10), INDEX);
            due(x.came(), 0);
        }
        x.satchel(2, 0, 0);
        due(x.shift(2, 0, 3, 0, 1), INDEX);
        due(x.shift(0, 0, 2, 0, 1), INDEX);
        due(x.count(12), 7 * NO_PLACES.length + 2);
        holds(x, 3, NONE, NONE, NONE, NONE, NONE, NONE, NONE, NONE, NONE, NONE);
        holds(x, 0, 0, 1, 2, 3, 4, 0, 1, 2, 3, 4);
    }

    private static void shiftStore() {
        int[][] takes = {{1, 1, 1, 1, 1}, {1, 1, 0, 0, 0}, {0, 0, 1, 1, 0}, {0, 0, 0, 1, 0}, {0, 0, 0, 0, 1},
            {0, 1, 0, 0, 0}};
        for (int form = 0; form < 6; form++) {
            for (int kind = 0; kind < 5; kind++) {
                ToteHouse x = packed(5);
                x.satchel(1, form, 1);
                due(x.shift(0, kind, 1, 0, 1), takes[form][kind] == 1 ? 1 : STORE);
                due(x.held(1, 0), takes[form][kind] == 1 ? kind : NONE);
                due(x.came(), takes[form][kind]);
                due(x.count(14), 1 - takes[form][kind]);
            }
        }
    }

    private static void arrivals() {
        Doc.promise(39, "How many came by the latest gather(), shift()", SatchelEdges::cameTold);
        Doc.promise(39, "that was not UNKNOWN, OUTSIDE", SatchelEdges::cameOfTheLatest);
        Doc.promise(39, "(0 before).", SatchelEdges::cameBefore);
    }

    private static void cameTold() {
        ToteHouse x = packed(10);
        due(x.came(), 10);
        due(x.came(), 10);
        x.shift(0, 0, 3, 0, 4);
        due(x.came(), 4);
        x.gather(0, 0, 0, 0, 1);
        due(x.came(), 1);
        x.shift(0, 7, 3, 0, 5);
        due(x.came(), 3);
        x.gather(0, 0, 1, 0, 1);
        due(x.came(), 0);
    }

    private static void cameOfTheLatest() {
        ToteHouse x = packed(10);
        x.gather(4, 0, 0, 0, 1);
        x.gather(0, 0, 6, 0, 1);
        x.gather(0, 0, 0, 0, 13);
        x.gather(0, 0, 0, 0, -1);
        x.shift(4, 0, 0, 0, 1);
        x.shift(0, 0, 4, 0, 1);
        x.shift(0, 0, 3, 0, 11);
        x.shift(0, 0, 3, 0, -1);
        due(x.came(), 10);
        // Other calls, their FINDINGS, too, leave it.
        x.held(0, 99);
        x.cash(0);
        x.satchel(0, 0, 1);
        x.drawer(0, -1);
        due(x.came(), 10);
        // A shift() with a FINDING ahead of the first one is the latest.
        x.shift(1, 0, 0, 0, 1);
        due(x.came(), 0);
    }

    private static void cameBefore() {
        ToteHouse x = filled();
        due(x.came(), 0);
        x.gather(9, 0, 0, 0, 1);
        due(x.came(), 0);
    }

    private static void looks() {
        Doc.promise(40, "The number of the TICKET at a place of a SATCHEL; NONE.", SatchelEdges::heldTold);
        Doc.promise(40, "UNKNOWN;", SatchelEdges::heldUnknown);
        Doc.promise(40, "NULL;", SatchelEdges::heldNull);
        Doc.promise(40, "INDEX.", SatchelEdges::heldIndex);
    }

    private static void heldTold() {
        ToteHouse x = packed(10);
        holds(x, 0, 0, 1, 2, 3, 4, 0, 1, 2, 3, 4);
        holds(x, 3, NONE, NONE, NONE, NONE, NONE, NONE, NONE, NONE, NONE, NONE);
        due(x.finding(), 0);
        // Whatever becomes of the DRAWER, the SLIP, the TICKET.
        x.lose(0);
        x.cancel(0);
        due(x.held(0, 0), 0);
    }

    private static void heldUnknown() {
        ToteHouse x = packed(1);
        for (int s : NO_SATCHELS) {
            due(x.held(s, 0), UNKNOWN);
        }
        due(x.finding(), 0);
    }

    private static void heldNull() {
        ToteHouse x = packed(1);
        due(x.held(1, 0), NULL);
        due(x.held(2, -1), NULL);
        due(x.count(11), 2);
    }

    private static void heldIndex() {
        ToteHouse x = packed(10);
        for (int place : NO_PLACES) {
            due(x.held(0, place), INDEX);
        }
        x.satchel(1, 0, 0);
        due(x.held(1, 0), INDEX);
        due(x.held(1, -1), INDEX);
        due(x.count(12), NO_PLACES.length + 2);
    }

    private static void cashes() {
        Doc.promise(41, "TICKETS of a SATCHEL, place by place, are PAID, those that can not be (NOTHING, too) passed"
                + " over: what they get together.", SatchelEdges::cashed);
        Doc.promise(41, "UNKNOWN;", SatchelEdges::cashUnknown);
        Doc.promise(41, "NULL.", SatchelEdges::cashNull);
    }

    private static void cashed() {
        ToteHouse x = packed(10);
        x.cancel(0);
        due(x.cash(0), 0);
        due(x.cash(3), 0);
        Given.run(x, 0, 1, 2, 3);
        // Each TICKET is there twice: PAID once. The first is CANCELLED, THE DOUBLE is not SETTLED.
        due(x.cash(0), 120);
        int[] states = {1, 3, 3, 3, 0};
        for (int t = 0; t < 5; t++) {
            due(x.ticket(t, 5), states[t]);
        }
        due(x.cash(0), 0);
        due(x.book(1, 9) + x.book(2, 9) + x.book(3, 9), 120);
        due(x.held(0, 1), 1);
        due(x.finding(), 0);
        // One that gets nothing is PAID, too; one with 0 places has nothing.
        ToteHouse y = Given.race(3);
        y.sell(0, 0, 1, 0, 0, 1000);
        y.sell(0, 0, 2, 0, 0, 1000);
        y.drawer(0, 2);
        y.keep(0, 0, 1);
        y.satchel(0, 1, 10);
        y.satchel(1, 0, 0);
        y.gather(0, 9, 0, 0, 1);
        Given.run(y, 0, 1, 2, 3);
        due(y.cash(0), 0);
        due(y.ticket(1, 5), 3);
        due(y.cash(1), 0);
        y.keep(0, 1, 0);
        y.gather(0, 0, 0, 1, 1);
        due(y.cash(0), 20000);
        due(y.unclaimed(), 0);
    }

    private static void cashUnknown() {
        ToteHouse x = packed(1);
        for (int s : NO_SATCHELS) {
            due(x.cash(s), UNKNOWN);
        }
        due(x.finding(), 0);
    }

    private static void cashNull() {
        ToteHouse x = packed(1);
        due(x.cash(1), NULL);
        due(x.cash(2), NULL);
        due(x.count(11), 2);
        due(x.finding(), 1);
    }
}
