/** Promises 24 to 35, sentence by sentence. */
final class DrawerEdges {
    private static final int UNKNOWN = ToteHouse.UNKNOWN, OUTSIDE = ToteHouse.OUTSIDE, NONE = ToteHouse.NONE;
    private static final int NULL = -11, INDEX = -12, CAST = -13, SIZE = -15;
    private static final int LEAST = Given.LEAST, MOST = Given.MOST;
    /** No WINDOW has such a number. */
    private static final int[] NO_WINDOWS = {-1, 6, 7, LEAST, LEAST + 1, -6, 1 << 30, MOST};
    /** SLIPS that a DRAWER of 12 does not have. */
    private static final int[] NO_SLIPS = {-1, 12, 13, LEAST, LEAST + 1, LEAST + 12, -12, 1 << 30, MOST - 12, MOST};

    private DrawerEdges() {
    }

    private static void due(long got, long want) {
        Check.due(got, want);
    }

    static void all() {
        drawers();
        loses();
        keeps();
        notes();
        rows();
        clears();
        kinds();
        reads();
        letters();
        coins();
        coinLooks();
        changes();
    }

    /** WINDOW 0 has 12 SLIPS: 0 .. 4 TICKETS by KIND, 5 a NOTE of 4, 6 a ROW of 8, 7 a ROW of 0, else NOTHING. */
    private static ToteHouse filled() {
        ToteHouse x = Given.tickets();
        x.drawer(0, 12);
        for (int t = 0; t < 5; t++) {
            x.keep(0, t, t);
        }
        x.note(0, 5, 0x0001_7FFF_8000_FFFFL, 4);
        x.coins(0, 6, 8);
        x.coins(0, 7, 0);
        return x;
    }

    /** DRAWERS: WINDOW 1's is LOST, WINDOW 2's has no SLIP. */
    private static ToteHouse withEmpty() {
        ToteHouse x = filled();
        x.drawer(2, 0);
        return x;
    }

    private static void drawers() {
        Doc.promise(24, "A new DRAWER of n SLIPS at a WINDOW: n.", DrawerEdges::drawerTaken);
        Doc.promise(24, "UNKNOWN;", DrawerEdges::drawerUnknown);
        Doc.promise(24, "OUTSIDE: n is above 12;", DrawerEdges::drawerOutside);
        Doc.promise(24, "SIZE.", DrawerEdges::drawerSize);
    }

    private static void drawerTaken() {
        ToteHouse x = new ToteHouse();
        for (int n = 0; n <= 12; n++) {
            due(x.drawer(n % 6, n), n);
            due(x.kind(n % 6, n - 1), n == 0 ? INDEX : NONE);
            due(x.kind(n % 6, n), INDEX);
            due(x.lose(n % 6), n);
        }
        // A new one has nothing of the one that was there.
        ToteHouse y = filled();
        due(y.drawer(0, 12), 12);
        for (int i = 0; i < 12; i++) {
            due(y.kind(0, i), NONE);
        }
    }

    private static void drawerUnknown() {
        ToteHouse x = new ToteHouse();
        for (int window : NO_WINDOWS) {
            due(x.drawer(window, 1), UNKNOWN);
        }
        due(x.finding(), 0);
    }

    private static void drawerOutside() {
        ToteHouse x = filled();
        for (int n : new int[] {13, 14, 1 << 30, MOST - 1, MOST}) {
            due(x.drawer(0, n), OUTSIDE);
            due(x.drawer(1, n), OUTSIDE);
        }
        due(x.finding(), 0);
        due(x.kind(0, 5), 5);
        due(x.lose(1), NULL);
    }

    private static void drawerSize() {
        ToteHouse x = filled();
        int found = 0;
        for (int n : new int[] {-1, -12, -(1 << 30), LEAST + 1, LEAST}) {
            due(x.drawer(0, n), SIZE);
            due(x.drawer(1, n), SIZE);
            found += 2;
            due(x.count(15), found);
        }
        due(x.finding(), 5);
        due(x.kind(0, 5), 5);
        due(x.lose(1), NULL);
    }

    private static void loses() {
        Doc.promise(25, "A DRAWER is LOST: how many SLIPS it had.", DrawerEdges::lost);
        Doc.promise(25, "UNKNOWN;", DrawerEdges::loseUnknown);
        Doc.promise(25, "NULL.", DrawerEdges::loseNull);
    }

    private static void lost() {
        ToteHouse x = withEmpty();
        due(x.lose(0), 12);
        due(x.kind(0, 0), NULL);
        due(x.lose(2), 0);
        due(x.kind(2, 0), NULL);
        // What was in it is gone with it.
        x.drawer(0, 12);
        due(x.kind(0, 5), NONE);
    }

    private static void loseUnknown() {
        ToteHouse x = new ToteHouse();
        for (int window : NO_WINDOWS) {
            due(x.lose(window), UNKNOWN);
        }
        due(x.finding(), 0);
    }

    private static void loseNull() {
        ToteHouse x = new ToteHouse();
        due(x.lose(0), NULL);
        x.drawer(0, 0);
        due(x.lose(0), 0);
        due(x.lose(0), NULL);
        due(x.lose(5), NULL);
        due(x.count(11), 3);
        due(x.finding(), 1);
    }

    private static void keeps() {
        Doc.promise(26, "A SLIP holds a TICKET (whatever it held): 1.", DrawerEdges::kept);
        Doc.promise(26, "UNKNOWN: WINDOW, TICKET;", DrawerEdges::keepUnknown);
        Doc.promise(26, "NULL;", DrawerEdges::keepNull);
        Doc.promise(26, "INDEX.", DrawerEdges::keepIndex);
    }

    private static void kept() {
        ToteHouse x = filled();
        for (int i = 0; i < 12; i++) {
            due(x.keep(0, i, i % 5), 1);
            due(x.read(0, i), i % 5);
        }
        // One TICKET in several SLIPS, of whatever state.
        x.cancel(0);
        x.scratch(0, 2);
        due(x.keep(0, 0, 0), 1);
        due(x.keep(0, 11, 0), 1);
        due(x.keep(0, 1, 2), 1);
        due(x.read(0, 0), 0);
        due(x.read(0, 11), 0);
        due(x.read(0, 1), 2);
    }

    private static void keepUnknown() {
        ToteHouse x = filled();
        for (int window : NO_WINDOWS) {
            due(x.keep(window, 0, 0), UNKNOWN);
        }
        due(x.keep(0, 0, 5), UNKNOWN);
        for (int ticket : Given.WILD) {
            due(x.keep(0, 0, ticket), UNKNOWN);
        }
        due(new ToteHouse().keep(0, 0, 0), UNKNOWN);
        due(x.finding(), 0);
        due(x.read(0, 0), 0);
    }

    private static void keepNull() {
        ToteHouse x = filled();
        due(x.keep(1, 0, 0), NULL);
        due(x.keep(1, MOST, 0), NULL);
        x.lose(0);
        due(x.keep(0, 0, 0), NULL);
        due(x.count(11), 3);
    }

    private static void keepIndex() {
        ToteHouse x = withEmpty();
        for (int i : NO_SLIPS) {
            due(x.keep(0, i, 0), INDEX);
        }
        due(x.keep(2, 0, 0), INDEX);
        due(x.count(12), NO_SLIPS.length + 1);
        due(x.finding(), 2);
    }

    private static void notes() {
        Doc.promise(27, "A SLIP holds a NOTE of n CHARS (1 .. 4), 16 bits of letters each, the highest of the lowest"
                + " 16 n first: n.", DrawerEdges::noted);
        Doc.promise(27, "UNKNOWN;", DrawerEdges::noteUnknown);
        Doc.promise(27, "OUTSIDE;", DrawerEdges::noteOutside);
        Doc.promise(27, "NULL;", DrawerEdges::noteNull);
        Doc.promise(27, "INDEX.", DrawerEdges::noteIndex);
    }

    private static void noted() {
        long[] texts = {0L, -1L, Long.MIN_VALUE, Long.MAX_VALUE, 1L, 0xFFFFL, 0x10000L, 0x8000L, 0x80000000L,
            0x0001_7FFF_8000_FFFFL, 0xFEDC_BA98_7654_3210L, 0xFFFF_0000_FFFF_0000L, Long.MIN_VALUE + 1};
        for (long letters : texts) {
            ToteHouse x = filled();
            for (int n = 1; n <= 4; n++) {
                due(x.note(0, n, letters, n), n);
                due(x.kind(0, n), 5);
                long left = letters;
                for (int k = n - 1; k >= 0; k--) {
                    due(x.letter(0, n, k), left & 0xFFFF);
                    left = left >> 16;
                }
                due(x.letter(0, n, n), INDEX);
            }
        }
    }

    private static void noteUnknown() {
        ToteHouse x = filled();
        for (int window : NO_WINDOWS) {
            due(x.note(window, 0, 1L, 1), UNKNOWN);
        }
        due(x.finding(), 0);
    }

    private static void noteOutside() {
        ToteHouse x = filled();
        for (int n : new int[] {0, 5, -1, -4, 1 << 30, LEAST, LEAST + 4, MOST}) {
            due(x.note(0, 0, 1L, n), OUTSIDE);
        }
        due(x.finding(), 0);
        due(x.kind(0, 0), 0);
    }

    private static void noteNull() {
        ToteHouse x = filled();
        due(x.note(1, 0, 1L, 1), NULL);
        due(x.note(1, -1, 1L, 4), NULL);
        due(x.count(11), 2);
    }

    private static void noteIndex() {
        ToteHouse x = withEmpty();
        for (int i : NO_SLIPS) {
            due(x.note(0, i, 1L, 4), INDEX);
        }
        due(x.note(2, 0, 1L, 1), INDEX);
        due(x.count(12), NO_SLIPS.length + 1);
    }

    private static void rows() {
        Doc.promise(28, "A SLIP holds a ROW of n COINS, each 0: n.", DrawerEdges::rowTaken);
        Doc.promise(28, "UNKNOWN;", DrawerEdges::rowUnknown);
        Doc.promise(28, "OUTSIDE: n is above 8;", DrawerEdges::rowOutside);
        Doc.promise(28, "NULL;", DrawerEdges::rowNull);
        Doc.promise(28, "INDEX;", DrawerEdges::rowIndex);
        Doc.promise(28, "SIZE.", DrawerEdges::rowSize);
    }

    private static void rowTaken() {
        ToteHouse x = filled();
        for (int n = 0; n <= 8; n++) {
            due(x.coins(0, n, n), n);
            due(x.kind(0, n), 6);
            for (int k = 0; k < n; k++) {
                due(x.coinAt(0, n, k), 0);
                x.coin(0, n, k, k + 1);
            }
            due(x.coin(0, n, n, 1), INDEX);
        }
        // A new ROW has nothing of the one that was there.
        due(x.coins(0, 8, 8), 8);
        for (int k = 0; k < 8; k++) {
            due(x.coinAt(0, 8, k), 0);
        }
        due(x.coinAt(0, 7, 6), 7);
    }

    private static void rowUnknown() {
        ToteHouse x = filled();
        for (int window : NO_WINDOWS) {
            due(x.coins(window, 0, 1), UNKNOWN);
        }
        due(x.finding(), 0);
    }

    private static void rowOutside() {
        ToteHouse x = filled();
        for (int n : new int[] {9, 10, 1 << 30, MOST}) {
            due(x.coins(0, 0, n), OUTSIDE);
        }
        due(x.finding(), 0);
        due(x.kind(0, 0), 0);
    }

    private static void rowNull() {
        ToteHouse x = filled();
        due(x.coins(1, 0, 0), NULL);
        due(x.coins(1, -1, -1), NULL);
        due(x.count(11), 2);
    }

    private static void rowIndex() {
        ToteHouse x = withEmpty();
        for (int i : NO_SLIPS) {
            due(x.coins(0, i, 8), INDEX);
            due(x.coins(0, i, -1), INDEX);
        }
        due(x.coins(2, 0, 0), INDEX);
        due(x.count(12), 2 * NO_SLIPS.length + 1);
    }

    private static void rowSize() {
        ToteHouse x = filled();
        for (int n : new int[] {-1, -8, -(1 << 30), LEAST + 1, LEAST}) {
            due(x.coins(0, 0, n), SIZE);
        }
        due(x.count(15), 5);
        due(x.kind(0, 0), 0);
    }

    private static void clears() {
        Doc.promise(29, "A SLIP holds NOTHING: what kind() told.", DrawerEdges::cleared);
        Doc.promise(29, "UNKNOWN;", DrawerEdges::clearUnknown);
        Doc.promise(29, "NULL (the DRAWER);", DrawerEdges::clearNull);
        Doc.promise(29, "INDEX.", DrawerEdges::clearIndex);
    }

    private static void cleared() {
        ToteHouse x = filled();
        int[] kinds = {0, 1, 2, 3, 4, 5, 6, 6, NONE, NONE, NONE, NONE};
        for (int i = 0; i < 12; i++) {
            due(x.kind(0, i), kinds[i]);
            due(x.clear(0, i), kinds[i]);
            due(x.kind(0, i), NONE);
            due(x.clear(0, i), NONE);
        }
        due(x.finding(), 0);
    }

    private static void clearUnknown() {
        ToteHouse x = filled();
        for (int window : NO_WINDOWS) {
            due(x.clear(window, 0), UNKNOWN);
        }
        due(x.finding(), 0);
    }

    private static void clearNull() {
        ToteHouse x = filled();
        due(x.clear(1, 0), NULL);
        due(x.clear(1, MOST), NULL);
        due(x.count(11), 2);
        // NOTHING in the SLIP is no FINDING here.
        due(x.clear(0, 11), NONE);
        due(x.count(11), 2);
    }

    private static void clearIndex() {
        ToteHouse x = withEmpty();
        for (int i : NO_SLIPS) {
            due(x.clear(0, i), INDEX);
        }
        due(x.clear(2, 0), INDEX);
        due(x.count(12), NO_SLIPS.length + 1);
    }

    private static void kinds() {
        Doc.promise(30, "What a SLIP holds: NONE NOTHING, 0 .. 4 a TICKET of that KIND, 5 a NOTE, 6 a ROW.",
                DrawerEdges::kindTold);
        Doc.promise(30, "UNKNOWN;", DrawerEdges::kindUnknown);
        Doc.promise(30, "NULL (the DRAWER);", DrawerEdges::kindNull);
        Doc.promise(30, "INDEX.", DrawerEdges::kindIndex);
    }

    private static void kindTold() {
        ToteHouse x = filled();
        int[] kinds = {0, 1, 2, 3, 4, 5, 6, 6, NONE, NONE, NONE, NONE};
        for (int i = 0; i < 12; i++) {
            due(x.kind(0, i), kinds[i]);
        }
        // A TICKET of the same KIND of another RACE.
        x.sell(0, 7, 1, 2, 3, 1);
        x.keep(0, 11, 5);
        due(x.kind(0, 11), 3);
    }

    private static void kindUnknown() {
        ToteHouse x = filled();
        for (int window : NO_WINDOWS) {
            due(x.kind(window, 0), UNKNOWN);
        }
        due(x.finding(), 0);
    }

    private static void kindNull() {
        ToteHouse x = filled();
        for (int window = 1; window < 6; window++) {
            due(x.kind(window, 0), NULL);
            due(x.kind(window, -1), NULL);
        }
        due(x.count(11), 10);
    }

    private static void kindIndex() {
        ToteHouse x = withEmpty();
        for (int i : NO_SLIPS) {
            due(x.kind(0, i), INDEX);
        }
        due(x.kind(2, 0), INDEX);
        due(x.count(12), NO_SLIPS.length + 1);
    }

    private static void reads() {
        Doc.promise(31, "The number of the TICKET that a SLIP holds.", DrawerEdges::readTold);
        Doc.promise(31, "UNKNOWN;", DrawerEdges::readUnknown);
        Doc.promise(31, "NULL;", DrawerEdges::readOfLost);
        Doc.promise(31, "INDEX;", DrawerEdges::readIndex);
        Doc.promise(31, "NULL;", DrawerEdges::readOfNothing);
        Doc.promise(31, "CAST.", DrawerEdges::readCast);
    }

    private static void readTold() {
        ToteHouse x = Given.race(3);
        for (int i = 0; i < 200; i++) {
            x.sell(0, 0, 1, 0, 0, 1);
        }
        x.drawer(5, 12);
        x.keep(5, 0, 0);
        x.keep(5, 11, 199);
        due(x.read(5, 0), 0);
        due(x.read(5, 11), 199);
        due(x.read(5, 11), 199);
    }

    private static void readUnknown() {
        ToteHouse x = filled();
        for (int window : NO_WINDOWS) {
            due(x.read(window, 0), UNKNOWN);
        }
        due(x.finding(), 0);
    }

    private static void readOfLost() {
        ToteHouse x = filled();
        due(x.read(1, 0), NULL);
        due(x.read(1, -1), NULL);
        due(x.count(11), 2);
    }

    private static void readIndex() {
        ToteHouse x = withEmpty();
        for (int i : NO_SLIPS) {
            due(x.read(0, i), INDEX);
        }
        due(x.read(2, 0), INDEX);
        due(x.count(12), NO_SLIPS.length + 1);
    }

    private static void readOfNothing() {
        ToteHouse x = filled();
        for (int i = 8; i < 12; i++) {
            due(x.read(0, i), NULL);
        }
        x.clear(0, 0);
        due(x.read(0, 0), NULL);
        due(x.count(11), 5);
    }

    private static void readCast() {
        ToteHouse x = filled();
        for (int i = 5; i < 8; i++) {
            due(x.read(0, i), CAST);
        }
        due(x.count(13), 3);
        due(x.finding(), 3);
    }

    private static void letters() {
        Doc.promise(32, "CHAR k of a NOTE (0 .. 65535).", DrawerEdges::letterTold);
        Doc.promise(32, "UNKNOWN;", DrawerEdges::letterUnknown);
        Doc.promise(32, "NULL;", DrawerEdges::letterOfLost);
        Doc.promise(32, "INDEX;", DrawerEdges::letterNoSlip);
        Doc.promise(32, "NULL, CAST;", DrawerEdges::letterOfNoNote);
        Doc.promise(32, "INDEX.", DrawerEdges::letterNoChar);
    }

    private static void letterTold() {
        ToteHouse x = filled();
        int[] chars = {0x0001, 0x7FFF, 0x8000, 0xFFFF};
        for (int k = 0; k < 4; k++) {
            due(x.letter(0, 5, k), chars[k]);
        }
        x.note(0, 0, 0L, 1);
        due(x.letter(0, 0, 0), 0);
        x.note(0, 0, Long.MIN_VALUE, 4);
        due(x.letter(0, 0, 0), 0x8000);
        due(x.letter(0, 0, 3), 0);
    }

    private static void letterUnknown() {
        ToteHouse x = filled();
        for (int window : NO_WINDOWS) {
            due(x.letter(window, 5, 0), UNKNOWN);
        }
        due(x.finding(), 0);
    }

    private static void letterOfLost() {
        ToteHouse x = filled();
        due(x.letter(1, 5, 0), NULL);
        due(x.letter(1, -1, -1), NULL);
        due(x.count(11), 2);
    }

    private static void letterNoSlip() {
        ToteHouse x = withEmpty();
        for (int i : NO_SLIPS) {
            due(x.letter(0, i, 0), INDEX);
        }
        due(x.letter(2, 0, 0), INDEX);
        due(x.count(12), NO_SLIPS.length + 1);
    }

    private static void letterOfNoNote() {
        ToteHouse x = filled();
        for (int i = 0; i < 12; i++) {
            if (i != 5) {
                due(x.letter(0, i, 0), i > 7 ? NULL : CAST);
                due(x.letter(0, i, -1), i > 7 ? NULL : CAST);
            }
        }
        due(x.count(11), 8);
        due(x.count(13), 14);
        due(x.count(12), 0);
    }

    private static void letterNoChar() {
        ToteHouse x = filled();
        for (int n = 1; n <= 4; n++) {
            x.note(0, 5, -1L, n);
            for (int beside = 1; beside <= 20; beside++) {
                due(x.letter(0, 5, n - 1 + beside), INDEX);
                due(x.letter(0, 5, -beside), INDEX);
            }
            for (int k : new int[] {LEAST, LEAST + 1, LEAST + n, -(1 << 28), 1 << 28, 1 << 30, MOST - 1, MOST}) {
                due(x.letter(0, 5, k), INDEX);
            }
        }
        due(x.finding(), 2);
    }

    private static void coins() {
        Doc.promise(33, "COIN k becomes v: 1.", DrawerEdges::coinTaken);
        Doc.promise(33, "UNKNOWN;", DrawerEdges::coinUnknown);
        Doc.promise(33, "NULL;", DrawerEdges::coinOfLost);
        Doc.promise(33, "INDEX;", DrawerEdges::coinNoSlip);
        Doc.promise(33, "NULL, CAST;", DrawerEdges::coinOfNoRow);
        Doc.promise(33, "INDEX.", DrawerEdges::coinNoCoin);
    }

    private static void coinTaken() {
        ToteHouse x = filled();
        int[] values = {LEAST, LEAST + 1, -1, 0, 1, MOST - 1, MOST, 17};
        for (int k = 0; k < 8; k++) {
            due(x.coin(0, 6, k, values[k]), 1);
        }
        for (int k = 0; k < 8; k++) {
            due(x.coinAt(0, 6, k), values[k]);
        }
        due(x.coin(0, 6, 7, 18), 1);
        due(x.coinAt(0, 6, 7), 18);
    }

    private static void coinUnknown() {
        ToteHouse x = filled();
        for (int window : NO_WINDOWS) {
            due(x.coin(window, 6, 0, 1), UNKNOWN);
        }
        due(x.finding(), 0);
    }

    private static void coinOfLost() {
        ToteHouse x = filled();
        due(x.coin(1, 6, 0, 1), NULL);
        due(x.coin(1, -1, -1, 1), NULL);
        due(x.count(11), 2);
    }

    private static void coinNoSlip() {
        ToteHouse x = withEmpty();
        for (int i : NO_SLIPS) {
            due(x.coin(0, i, 0, 1), INDEX);
        }
        due(x.coin(2, 0, 0, 1), INDEX);
        due(x.count(12), NO_SLIPS.length + 1);
    }

    private static void coinOfNoRow() {
        ToteHouse x = filled();
        for (int i = 0; i < 12; i++) {
            if (i != 6 && i != 7) {
                due(x.coin(0, i, 0, 1), i > 7 ? NULL : CAST);
                due(x.coin(0, i, 99, 1), i > 7 ? NULL : CAST);
            }
        }
        due(x.count(11), 8);
        due(x.count(13), 12);
        due(x.count(12), 0);
    }

    private static final int[] NO_COINS = {-1, 8, 9, LEAST, LEAST + 8, -8, 1 << 30, MOST};

    private static void coinNoCoin() {
        ToteHouse x = filled();
        for (int k : NO_COINS) {
            due(x.coin(0, 6, k, 5), INDEX);
        }
        for (int k = -1; k < 2; k++) {
            due(x.coin(0, 7, k, 5), INDEX);
        }
        due(x.count(12), NO_COINS.length + 3);
        for (int k = 0; k < 8; k++) {
            due(x.coinAt(0, 6, k), 0);
        }
    }

    /** What answers 0 is refused by nothing that is counted, or met this FINDING, the first one of its number. */
    private static void finds(ToteHouse x, long answer, int number) {
        due(answer, 0);
        due(x.finding(), number);
        for (int f = 1; f <= 6; f++) {
            due(x.count(10 + f), f == number ? 1 : 0);
        }
    }

    private static void coinLooks() {
        Doc.promise(34, "COIN k;", DrawerEdges::coinAtTold);
        Doc.promise(34, "0: UNKNOWN,", DrawerEdges::coinAtUnknown);
        Doc.promise(34, "FINDINGS as coin().", DrawerEdges::coinAtFindings);
    }

    private static void coinAtTold() {
        ToteHouse x = filled();
        due(x.coinAt(0, 6, 0), 0);
        due(x.coinAt(0, 6, 7), 0);
        x.coin(0, 6, 0, LEAST);
        x.coin(0, 6, 7, MOST);
        due(x.coinAt(0, 6, 0), LEAST);
        due(x.coinAt(0, 6, 7), MOST);
        due(x.finding(), 0);
    }

    private static void coinAtUnknown() {
        ToteHouse x = filled();
        x.coin(0, 6, 0, 5);
        for (int window : NO_WINDOWS) {
            due(x.coinAt(window, 6, 0), 0);
        }
        due(x.finding(), 0);
    }

    private static void coinAtFindings() {
        ToteHouse x = filled();
        finds(x, x.coinAt(1, -1, -1), 1);
        for (int i : NO_SLIPS) {
            ToteHouse y = filled();
            finds(y, y.coinAt(0, i, -1), 2);
        }
        for (int i : new int[] {0, 4, 5, 11}) {
            ToteHouse y = filled();
            finds(y, y.coinAt(0, i, -1), i == 11 ? 1 : 3);
        }
        for (int k : NO_COINS) {
            ToteHouse y = filled();
            finds(y, y.coinAt(0, 6, k), 2);
        }
        ToteHouse z = withEmpty();
        finds(z, z.coinAt(0, 7, 0), 2);
        ToteHouse w = withEmpty();
        finds(w, w.coinAt(2, 0, 0), 2);
    }

    private static void changes() {
        Doc.promise(35, "COIN k by COIN l (cut toward 0; the least int by -1 is itself): the quotient;",
                DrawerEdges::changed);
        Doc.promise(35, "0: UNKNOWN,", DrawerEdges::changeUnknown);
        Doc.promise(35, "FINDINGS as coin(), of k ahead of l;", DrawerEdges::changeFindings);
        Doc.promise(35, "ZERO.", DrawerEdges::changeZero);
    }

    private static void changed() {
        int[] values = {LEAST, LEAST + 1, -7, -2, -1, 1, 2, 7, MOST - 1, MOST};
        for (int a : values) {
            for (int b : values) {
                ToteHouse x = filled();
                x.coin(0, 6, 0, a);
                x.coin(0, 6, 7, b);
                // By longs, whose quotient is cut toward 0 and does not wrap; the int of it does.
                due(x.change(0, 6, 0, 7), (int) ((long) a / b));
                due(x.coinAt(0, 6, 0), a);
                due(x.coinAt(0, 6, 7), b);
                due(x.change(0, 6, 0, 0), 1);
            }
        }
        ToteHouse y = filled();
        y.coin(0, 6, 0, LEAST);
        y.coin(0, 6, 1, -1);
        due(y.change(0, 6, 0, 1), LEAST);
        due(y.change(0, 6, 1, 0), 0);
        due(y.change(0, 6, 2, 1), 0);
        due(y.finding(), 0);
    }

    private static void changeUnknown() {
        ToteHouse x = filled();
        x.coin(0, 6, 0, 5);
        for (int window : NO_WINDOWS) {
            due(x.change(window, 6, 0, 0), 0);
        }
        due(x.finding(), 0);
    }

    private static void changeFindings() {
        ToteHouse x = filled();
        finds(x, x.change(1, -1, -1, -1), 1);
        for (int i : NO_SLIPS) {
            ToteHouse y = filled();
            finds(y, y.change(0, i, -1, -1), 2);
        }
        for (int i : new int[] {0, 4, 5, 11}) {
            ToteHouse y = filled();
            finds(y, y.change(0, i, -1, -1), i == 11 ? 1 : 3);
        }
        for (int k : NO_COINS) {
            ToteHouse y = filled();
            finds(y, y.change(0, 6, k, 0), 2);
            ToteHouse z = filled();
            finds(z, z.change(0, 6, 0, k), 2);
            // Both: one FINDING alone.
            ToteHouse w = filled();
            finds(w, w.change(0, 6, k, k), 2);
        }
        ToteHouse v = filled();
        finds(v, v.change(0, 7, 0, 0), 2);
    }

    private static void changeZero() {
        for (int a : new int[] {LEAST, -1, 0, 1, MOST}) {
            ToteHouse x = filled();
            x.coin(0, 6, 0, a);
            finds(x, x.change(0, 6, 0, 1), 6);
            due(x.coinAt(0, 6, 0), a);
        }
        ToteHouse y = filled();
        finds(y, y.change(0, 6, 3, 3), 6);
    }
}
