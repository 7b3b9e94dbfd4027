/** Promises 42 to 45; what is due is reckoned by this language's own floats. */
public final class LapsTest {
    private static final int UNKNOWN = ToteHouse.UNKNOWN, FULL = ToteHouse.FULL;
    private static final int NO_NUMBER = 0x7FC00000, ENDLESS = 0x7F800000, LEAST = Integer.MIN_VALUE;
    private static final int[] EDGES = {0, LEAST, 1, LEAST + 1, 2, 3, 0x7FFFFF, 0x800000, 0x800001, 0x80800000,
        0x1000000, 0x3F800000, 0xBF800000, 0x3F800001, 0x40490FDB, 0x4B000000, 0x4B7FFFFF, 0x4B800000, 0x4B800001,
        0x7F000000, 0x7F7FFFFF, 0xFF7FFFFF, ENDLESS, 0xFF800000, 0x7F800001, 0x7FC00000, 0xFFC00000, -1,
        0x3DCCCCCD, 0x33800000, 0x00400000, 0x01000001};

    private static void due(long got, long want) {
        Check.due(got, want);
    }

    public static void main(String[] args) {
        lap();
        lapAt();
        paceOfNone();
        paceRefused();
        paceOfEdges();
        paceOfMany();
        remainder();
        remainderOfMany();
        Check.end();
    }

    private static ToteHouse withLaps(int... laps) {
        ToteHouse x = new ToteHouse();
        x.race(2);
        for (int bits : laps) {
            x.lap(0, bits);
        }
        return x;
    }

    private static void lap() {
        ToteHouse x = new ToteHouse();
        due(x.lap(0, 0), UNKNOWN);
        x.race(2);
        x.race(2);
        due(x.lap(-1, 0), UNKNOWN);
        due(x.lap(2, 0), UNKNOWN);
        for (int i = 1; i <= 12; i++) {
            due(x.lap(0, i), i);
        }
        due(x.lap(0, 13), FULL);
        due(x.lapAt(0, 11), 12);
        due(x.lap(1, 0), 1);
        Given.run(x, 1, 1, 2);
        due(x.lap(1, 0), 2);
        due(x.pace(0, 4), 12);
    }

    private static void lapAt() {
        ToteHouse x = withLaps();
        due(x.lapAt(1, 0), 0);
        due(x.lapAt(-1, 0), 0);
        due(x.finding(), 0);
        due(x.lapAt(0, 0), 0);
        due(x.finding(), 2);
        due(x.count(12), 1);
        for (int bits : EDGES) {
            ToteHouse y = withLaps(5, bits);
            boolean none = Float.isNaN(Float.intBitsToFloat(bits));
            due(y.lapAt(0, 1), none ? NO_NUMBER : bits);
            due(y.lapAt(0, 0), 5);
            due(y.lapAt(0, 2), 0);
            due(y.lapAt(0, -1), 0);
            due(y.count(12), 2);
        }
    }

    private static void paceOfNone() {
        ToteHouse x = withLaps();
        ToteHouse y = withLaps(ENDLESS, 0xFF800000, NO_NUMBER, -1);
        for (int what = 0; what < 4; what++) {
            due(x.pace(0, what), NO_NUMBER);
            due(y.pace(0, what), NO_NUMBER);
        }
        due(x.pace(0, 4), 0);
        due(y.pace(0, 4), 0);
    }

    private static void paceRefused() {
        ToteHouse x = withLaps(0x3F800000);
        due(x.pace(1, 0), 0);
        due(x.pace(-1, 4), 0);
        due(x.pace(0, 5), 0);
        due(x.pace(0, -1), 0);
        due(x.pace(0, LEAST), 0);
        due(x.finding(), 0);
        due(x.pace(0, 0), 0x3F800000);
    }

    private static void paceOfEdges() {
        for (int a : EDGES) {
            samePace(a);
            for (int b : EDGES) {
                samePace(a, b);
                samePace(a, b, 1);
                samePace(a, b, 0xFF7FFFFF);
            }
        }
        // A sum below 0 whose quotient is cut to nothing keeps its sign; the first of equal ones counts.
        due(withLaps(LEAST + 1, 0, 0).pace(0, 1), LEAST);
        due(withLaps(0, LEAST).pace(0, 2), 0);
        due(withLaps(LEAST, 0).pace(0, 3), LEAST);
        due(withLaps(LEAST).pace(0, 0), 0);
        due(withLaps(0x7F7FFFFF, 0x7F7FFFFF, 0xFF7FFFFF).pace(0, 0), ENDLESS);
        due(withLaps(0x7F7FFFFF, 0x7F7FFFFF, 0xFF7FFFFF).pace(0, 1), ENDLESS);
        due(withLaps(0xFF7FFFFF, 0xFF7FFFFF).pace(0, 0), 0xFF800000);
    }

    private static void samePace(int... laps) {
        ToteHouse x = withLaps(laps);
        float sum = 0f;
        int n = 0;
        float least = 0f;
        float greatest = 0f;
        for (int bits : laps) {
            float f = Float.intBitsToFloat(bits);
            if (!Float.isFinite(f)) {
                continue;
            }
            sum += f;
            least = n == 0 || f < least ? f : least;
            greatest = n == 0 || f > greatest ? f : greatest;
            n++;
        }
        due(x.pace(0, 4), n);
        due(x.pace(0, 0), n == 0 ? NO_NUMBER : Float.floatToRawIntBits(sum));
        due(x.pace(0, 1), n == 0 ? NO_NUMBER : Float.floatToRawIntBits(sum / n));
        due(x.pace(0, 2), n == 0 ? NO_NUMBER : Float.floatToRawIntBits(least));
        due(x.pace(0, 3), n == 0 ? NO_NUMBER : Float.floatToRawIntBits(greatest));
    }

    private static void paceOfMany() {
        Dice dice = new Dice(77);
        for (int i = 0; i < 20000; i++) {
            int[] laps = new int[1 + dice.below(12)];
            int near = dice.any();
            for (int k = 0; k < laps.length; k++) {
                // Either any bits, or such of nearly one size, whose sums have to be rounded.
                laps[k] = i % 2 == 0 ? dice.any() : near ^ (dice.any() & 0x81FFFFFF);
            }
            samePace(laps);
        }
    }

    private static void remainder() {
        ToteHouse x = withLaps(0x40A00000);
        due(x.remainder(1, 0, 0x40000000), 0);
        due(x.remainder(-1, 0, 0x40000000), 0);
        due(x.finding(), 0);
        due(x.remainder(0, 1, 0x40000000), 0);
        due(x.remainder(0, -1, 0), 0);
        due(x.finding(), 2);
        due(x.count(12), 2);
        due(x.remainder(0, 0, 0x40000000), 0x3F800000);
        due(x.remainder(0, 0, 0xC0000000), 0x3F800000);
        due(withLaps(0xC0A00000).remainder(0, 0, 0x40000000), 0xBF800000);
        due(withLaps(0xC0800000).remainder(0, 0, 0x40000000), LEAST);
        due(x.remainder(0, 0, 0), NO_NUMBER);
        due(x.remainder(0, 0, LEAST), NO_NUMBER);
        due(x.remainder(0, 0, -1), NO_NUMBER);
        due(x.remainder(0, 0, 0xFF800000), 0x40A00000);
        due(withLaps(ENDLESS).remainder(0, 0, 0x40000000), NO_NUMBER);
        due(withLaps(0x7F800001).remainder(0, 0, 0x40000000), NO_NUMBER);
        due(withLaps(ENDLESS).remainder(0, 0, ENDLESS), NO_NUMBER);
    }

    private static void sameRemainder(int lap, int step) {
        float by = Float.intBitsToFloat(lap) % Float.intBitsToFloat(step);
        due(withLaps(lap).remainder(0, 0, step), Float.isNaN(by) ? NO_NUMBER : Float.floatToRawIntBits(by));
    }

    private static void remainderOfMany() {
        for (int lap : EDGES) {
            for (int step : EDGES) {
                sameRemainder(lap, step);
            }
        }
        Dice dice = new Dice(78);
        for (int i = 0; i < 50000; i++) {
            int lap = dice.any();
            sameRemainder(lap, i % 2 == 0 ? dice.any() : lap ^ (dice.any() & 0x83FFFFFF));
        }
    }
}
