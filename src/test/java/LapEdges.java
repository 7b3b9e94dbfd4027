/** Promises 42 to 45, sentence by sentence; what is due is reckoned by this language's own floats. */
final class LapEdges {
    private static final int UNKNOWN = ToteHouse.UNKNOWN, FULL = ToteHouse.FULL;
    private static final int NO_NUMBER = 0x7FC00000, ENDLESS = 0x7F800000, MINUS_ENDLESS = 0xFF800000;
    private static final int ONE = 0x3F800000, TWO = 0x40000000, GREATEST = 0x7F7FFFFF, LEAST = Integer.MIN_VALUE;
    private static final int SMALLEST = 1, MINUS = LEAST;
    /** Bits of what is no number, the first and the last of each sign. */
    private static final int[] NO_NUMBERS = {0x7F800001, 0x7FBFFFFF, 0x7FC00000, 0x7FC00001, 0x7FFFFFFF, 0xFF800001,
        0xFFBFFFFF, 0xFFC00000, 0xFFC00001, 0xFFFFFFFF};
    private static final int[] NO_LAPS = {-1, 12, 13, LEAST, LEAST + 1, LEAST + 12, 1 << 30, Given.MOST};

    private LapEdges() {
    }

    private static void due(long got, long want) {
        Check.due(got, want);
    }

    static void all() {
        laps();
        lapLooks();
        paces();
        remainders();
    }

    private static ToteHouse withLaps(int... laps) {
        ToteHouse x = new ToteHouse();
        x.race(2);
        for (int bits : laps) {
            x.lap(0, bits);
        }
        return x;
    }

    private static float floatOf(int bits) {
        return Float.intBitsToFloat(bits);
    }

    private static void laps() {
        Doc.promise(42, "A LAP of a RACE: how many there are.", LapEdges::lapTaken);
        Doc.promise(42, "UNKNOWN;", LapEdges::lapUnknown);
        Doc.promise(42, "FULL.", LapEdges::lapFull);
    }

    private static void lapTaken() {
        ToteHouse x = Given.races(12);
        due(x.lap(0, 0), 1);
        due(x.lap(0, NO_NUMBER), 2);
        due(x.lap(11, LEAST), 1);
        // In whatever state the RACE is, without any RUNNER left, too.
        x.off(0);
        due(x.lap(0, ENDLESS), 3);
        Given.run(x, 0, 1, 2, 3);
        due(x.lap(0, -1), 4);
        Given.without(x, 11, 1, 4);
        due(x.lap(11, Given.MOST), 2);
    }

    private static void lapUnknown() {
        due(new ToteHouse().lap(0, 0), UNKNOWN);
        ToteHouse x = Given.races(12);
        due(x.lap(12, 0), UNKNOWN);
        for (int race : Given.WILD) {
            due(x.lap(race, 0), UNKNOWN);
        }
    }

    private static void lapFull() {
        ToteHouse x = Given.races(2);
        for (int n = 1; n <= 12; n++) {
            due(x.lap(0, 100 + n), n);
        }
        due(x.lap(0, 113), FULL);
        due(x.lap(0, 114), FULL);
        due(x.lapAt(0, 11), 112);
        due(x.lapAt(0, 0), 101);
        due(x.pace(0, 4), 12);
        due(x.lap(1, 113), 1);
    }

    private static void lapLooks() {
        Doc.promise(43, "Bits of LAP k.", LapEdges::lapAtTold);
        Doc.promise(43, "0: UNKNOWN, INDEX.", LapEdges::lapAtRefused);
    }

    private static void lapAtTold() {
        int[] numbers = {0, MINUS, SMALLEST, MINUS | SMALLEST, 0x007FFFFF, 0x00800000, ONE, MINUS | ONE, GREATEST,
            MINUS | GREATEST, ENDLESS, MINUS_ENDLESS};
        ToteHouse x = withLaps(numbers);
        for (int k = 0; k < 12; k++) {
            due(x.lapAt(0, k), numbers[k]);
        }
        for (int bits : NO_NUMBERS) {
            due(withLaps(bits).lapAt(0, 0), NO_NUMBER);
        }
        due(x.finding(), 0);
    }

    private static void lapAtRefused() {
        ToteHouse x = withLaps(ONE, ONE, ONE, ONE, ONE, ONE, ONE, ONE, ONE, ONE, ONE, ONE);
        due(x.lapAt(1, 0), 0);
        due(x.lapAt(1, -1), 0);
        for (int race : Given.WILD) {
            due(x.lapAt(race, 0), 0);
        }
        due(x.finding(), 0);
        for (int k : NO_LAPS) {
            due(x.lapAt(0, k), 0);
        }
        due(x.finding(), 2);
        due(x.count(12), NO_LAPS.length);
        // The last one, and the one just behind it, of fewer.
        ToteHouse y = withLaps(ONE);
        due(y.lapAt(0, 0), ONE);
        due(y.lapAt(0, 1), 0);
        due(y.count(12), 1);
        ToteHouse z = withLaps();
        due(z.lapAt(0, 0), 0);
        due(z.count(12), 1);
    }

    private static void paces() {
        Doc.promise(44, "Of the NUMBERS among LAPS, in order, bits of: 0 their sum, in floats, from 0.0 on,",
                LapEdges::paceSum);
        Doc.promise(44, "1 that by how many they are (as a float),", LapEdges::paceMean);
        Doc.promise(44, "2 the least one (the first of those that none is less than),", LapEdges::paceLeast);
        Doc.promise(44, "3 the greatest likewise;", LapEdges::paceGreatest);
        Doc.promise(44, "0x7FC00000 without any.", LapEdges::paceWithoutAny);
        Doc.promise(44, "4: how many they are.", LapEdges::paceCount);
        Doc.promise(44, "0: UNKNOWN, OUTSIDE.", LapEdges::paceRefused);
    }

    private static void paceSum() {
        // In order and in floats: 2^24 and 1 is 2^24 again, but 1 and 1 and 2^24 is more.
        int big = 0x4B800000;
        due(withLaps(big, ONE, ONE).pace(0, 0), big);
        due(withLaps(ONE, ONE, big).pace(0, 0), 0x4B800001);
        // From 0.0 on: the sum of -0.0 is 0.0.
        due(withLaps(MINUS).pace(0, 0), 0);
        due(withLaps(MINUS, MINUS).pace(0, 0), 0);
        due(withLaps(ONE, MINUS | ONE).pace(0, 0), 0);
        // It wraps nowhere: above the greatest it is endless, and stays so.
        due(withLaps(GREATEST, GREATEST).pace(0, 0), ENDLESS);
        due(withLaps(MINUS | GREATEST, MINUS | GREATEST).pace(0, 0), MINUS_ENDLESS);
        due(withLaps(GREATEST, GREATEST, MINUS | GREATEST).pace(0, 0), ENDLESS);
        due(withLaps(GREATEST, MINUS | GREATEST, GREATEST).pace(0, 0), GREATEST);
        due(withLaps(GREATEST, 0x73000000).pace(0, 0), ENDLESS);
        due(withLaps(GREATEST, 0x72FFFFFF).pace(0, 0), GREATEST);
        // Below what is normal.
        due(withLaps(SMALLEST, SMALLEST).pace(0, 0), 2);
        due(withLaps(0x007FFFFF, SMALLEST).pace(0, 0), 0x00800000);
        due(withLaps(0x00800000, MINUS | SMALLEST).pace(0, 0), 0x007FFFFF);
        due(withLaps(MINUS | SMALLEST).pace(0, 0), MINUS | SMALLEST);
        // Those that are no NUMBERS are passed over, wherever they stand.
        due(withLaps(NO_NUMBER, ONE, ENDLESS, ONE, MINUS_ENDLESS).pace(0, 0), TWO);
    }

    private static void paceMean() {
        due(withLaps(ONE, TWO).pace(0, 1), 0x3FC00000);
        due(withLaps(ONE, ONE, TWO).pace(0, 1), Float.floatToRawIntBits(4f / 3f));
        due(withLaps(ONE, NO_NUMBER, ENDLESS, ONE).pace(0, 1), ONE);
        due(withLaps(GREATEST, GREATEST).pace(0, 1), ENDLESS);
        due(withLaps(MINUS | GREATEST, MINUS | GREATEST).pace(0, 1), MINUS_ENDLESS);
        due(withLaps(GREATEST).pace(0, 1), GREATEST);
        due(withLaps(MINUS).pace(0, 1), 0);
        // What is cut to nothing: half of the smallest is even, so it is 0; below 0 with its sign.
        due(withLaps(SMALLEST, 0).pace(0, 1), 0);
        due(withLaps(MINUS | SMALLEST, 0).pace(0, 1), MINUS);
        due(withLaps(3, 0).pace(0, 1), 2);
        int[] twelve = new int[12];
        for (int k = 0; k < 12; k++) {
            twelve[k] = Float.floatToRawIntBits(0.1f * (k + 1));
        }
        float sum = 0f;
        for (int bits : twelve) {
            sum += floatOf(bits);
        }
        due(withLaps(twelve).pace(0, 1), Float.floatToRawIntBits(sum / 12f));
    }

    private static void paceLeast() {
        due(withLaps(TWO, ONE, TWO).pace(0, 2), ONE);
        due(withLaps(0, MINUS).pace(0, 2), 0);
        due(withLaps(MINUS, 0).pace(0, 2), MINUS);
        due(withLaps(0, MINUS | SMALLEST, MINUS).pace(0, 2), MINUS | SMALLEST);
        due(withLaps(SMALLEST, MINUS, 0).pace(0, 2), MINUS);
        due(withLaps(GREATEST, MINUS | GREATEST).pace(0, 2), MINUS | GREATEST);
        due(withLaps(MINUS_ENDLESS, GREATEST, NO_NUMBER).pace(0, 2), GREATEST);
        due(withLaps(0x00800000, 0x007FFFFF).pace(0, 2), 0x007FFFFF);
    }

    private static void paceGreatest() {
        due(withLaps(ONE, TWO, ONE).pace(0, 3), TWO);
        due(withLaps(0, MINUS).pace(0, 3), 0);
        due(withLaps(MINUS, 0).pace(0, 3), MINUS);
        due(withLaps(MINUS, SMALLEST, 0).pace(0, 3), SMALLEST);
        due(withLaps(MINUS | SMALLEST, MINUS, 0).pace(0, 3), MINUS);
        due(withLaps(MINUS | GREATEST, GREATEST).pace(0, 3), GREATEST);
        due(withLaps(ENDLESS, MINUS | GREATEST, NO_NUMBER).pace(0, 3), MINUS | GREATEST);
        due(withLaps(0x007FFFFF, 0x00800000).pace(0, 3), 0x00800000);
    }

    private static void paceWithoutAny() {
        ToteHouse[] all = {withLaps(), withLaps(NO_NUMBER), withLaps(ENDLESS), withLaps(MINUS_ENDLESS),
            withLaps(ENDLESS, MINUS_ENDLESS, -1)};
        for (ToteHouse x : all) {
            for (int what = 0; what < 4; what++) {
                due(x.pace(0, what), NO_NUMBER);
            }
            due(x.pace(0, 4), 0);
            due(x.finding(), 0);
        }
    }

    private static void paceCount() {
        ToteHouse x = withLaps();
        for (int k = 0; k < 12; k++) {
            due(x.pace(0, 4), k);
            x.lap(0, k);
        }
        due(x.pace(0, 4), 12);
        due(withLaps(NO_NUMBERS).pace(0, 4), 0);
        due(withLaps(0, MINUS, SMALLEST, GREATEST, MINUS | GREATEST, ENDLESS, MINUS_ENDLESS).pace(0, 4), 5);
    }

    private static void paceRefused() {
        ToteHouse x = withLaps(ONE);
        due(new ToteHouse().pace(0, 0), 0);
        due(x.pace(1, 0), 0);
        due(x.pace(1, 5), 0);
        due(x.pace(0, -1), 0);
        due(x.pace(0, 5), 0);
        for (int wild : Given.WILD) {
            due(x.pace(wild, 0), 0);
            due(x.pace(0, wild), 0);
        }
        due(x.finding(), 0);
        due(x.pace(0, 0), ONE);
    }

    private static void remainders() {
        Doc.promise(45, "Bits of the remainder (as this language has it) of LAP k by a step told by bits, as floats;",
                LapEdges::remainderTold);
        Doc.promise(45, "0x7FC00000: the LAP is no NUMBER, or the step is no number, or 0.",
                LapEdges::remainderOfNone);
        Doc.promise(45, "0: UNKNOWN, INDEX.", LapEdges::remainderRefused);
    }

    private static void remainderTold() {
        int[] numbers = {0, MINUS, SMALLEST, MINUS | SMALLEST, 2, 3, 0x007FFFFF, 0x00800000, 0x00800001, 0x01000000,
            0x01000001, 0x01400000, 0x01800001,
            0x3DCCCCCD, ONE, MINUS | ONE, 0x3F800001, 0x3F7FFFFF, TWO, 0x40400000, 0x40490FDB, 0x4B7FFFFF, 0x4B800000,
            0x7F000000, 0x7F7FFFFE, GREATEST, MINUS | GREATEST};
        for (int lap : numbers) {
            ToteHouse x = withLaps(lap);
            for (int step : numbers) {
                if ((step & ~MINUS) != 0) {
                    due(x.remainder(0, 0, step), Float.floatToRawIntBits(floatOf(lap) % floatOf(step)));
                }
            }
            // By an endless step it is the LAP itself.
            due(x.remainder(0, 0, ENDLESS), lap);
            due(x.remainder(0, 0, MINUS_ENDLESS), lap);
            due(x.lapAt(0, 0), lap);
        }
        // It has the LAP's sign, when it is 0, too.
        due(withLaps(0xC0400000).remainder(0, 0, TWO), MINUS | ONE);
        due(withLaps(0x40400000).remainder(0, 0, MINUS | TWO), ONE);
        due(withLaps(MINUS | TWO).remainder(0, 0, ONE), MINUS);
        // Of the greatest by the smallest: nothing is left.
        due(withLaps(GREATEST).remainder(0, 0, SMALLEST), 0);
    }

    private static void remainderOfNone() {
        for (int bits : NO_NUMBERS) {
            due(withLaps(bits).remainder(0, 0, ONE), NO_NUMBER);
            due(withLaps(bits).remainder(0, 0, bits), NO_NUMBER);
            due(withLaps(ONE).remainder(0, 0, bits), NO_NUMBER);
            due(withLaps(0).remainder(0, 0, bits), NO_NUMBER);
        }
        for (int lap : new int[] {ENDLESS, MINUS_ENDLESS}) {
            for (int step : new int[] {0, MINUS, SMALLEST, ONE, GREATEST, ENDLESS, MINUS_ENDLESS, NO_NUMBER}) {
                due(withLaps(lap).remainder(0, 0, step), NO_NUMBER);
            }
        }
        for (int lap : new int[] {0, MINUS, SMALLEST, ONE, GREATEST}) {
            ToteHouse x = withLaps(lap);
            due(x.remainder(0, 0, 0), NO_NUMBER);
            due(x.remainder(0, 0, MINUS), NO_NUMBER);
            // By 0 there is no FINDING here.
            due(x.finding(), 0);
        }
    }

    private static void remainderRefused() {
        ToteHouse x = withLaps(ONE, ONE, ONE, ONE, ONE, ONE, ONE, ONE, ONE, ONE, ONE, 0x40400000);
        due(x.remainder(0, 11, TWO), ONE);
        due(x.remainder(1, 0, TWO), 0);
        due(x.remainder(1, 12, 0), 0);
        for (int race : Given.WILD) {
            due(x.remainder(race, 0, TWO), 0);
        }
        due(x.finding(), 0);
        for (int k : NO_LAPS) {
            due(x.remainder(0, k, TWO), 0);
            due(x.remainder(0, k, 0), 0);
            due(x.remainder(0, k, NO_NUMBER), 0);
        }
        due(x.finding(), 2);
        due(x.count(12), 3 * NO_LAPS.length);
        ToteHouse y = withLaps(ONE);
        due(y.remainder(0, 1, TWO), 0);
        due(y.count(12), 1);
    }
}
