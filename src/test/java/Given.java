/** Days that several tests begin with. */
final class Given {
    static final int LEAST = Integer.MIN_VALUE, MOST = Integer.MAX_VALUE;
    /** Numbers of nothing, of no RUNNER, below and above all that is taken; some wrap to 0 when multiplied. */
    static final int[] WILD = {LEAST, LEAST + 1, LEAST + 10, -(1 << 30), -(1 << 16), -1, 1 << 16, 1 << 28, 1 << 29,
        1 << 30, 3 << 29, MOST - 10, MOST - 1, MOST};

    private Given() {
    }

    /** One RACE of n RUNNERS with all its POOLS, nothing deducted, UNIT 10. */
    static ToteHouse race(int n) {
        ToteHouse x = new ToteHouse();
        x.race(n);
        for (int kind = 0; kind < 4; kind++) {
            x.pool(0, kind, 0, 10);
        }
        return x;
    }

    /** RACE 0 of 6 and RACE 1 of 4 with all POOLS (numbers 0 to 7) and THE DOUBLE, nothing deducted, UNIT 10. */
    static ToteHouse twoRaces() {
        ToteHouse x = race(6);
        x.race(4);
        for (int kind = 0; kind < 4; kind++) {
            x.pool(1, kind, 0, 10);
        }
        x.twin(0, 1, 0, 10);
        return x;
    }

    /** TICKETS 0 .. 4 of KINDS 0 .. 4, each of 4 UNITS at WINDOW 0, of twoRaces(). */
    static ToteHouse tickets() {
        ToteHouse x = twoRaces();
        x.sell(0, 0, 1, 0, 0, 4);
        x.sell(0, 1, 1, 0, 0, 4);
        x.sell(0, 2, 1, 2, 0, 4);
        x.sell(0, 3, 1, 2, 3, 4);
        x.sell(0, 48, 1, 1, 0, 4);
        return x;
    }

    /** So many RACES of 4 RUNNERS, without POOLS. */
    static ToteHouse races(int n) {
        ToteHouse x = new ToteHouse();
        for (int i = 0; i < n; i++) {
            x.race(4);
        }
        return x;
    }

    /** The RUNNERS of a RACE from least to most are taken OUT. */
    static void without(ToteHouse x, int race, int least, int most) {
        for (int runner = least; runner <= most; runner++) {
            x.scratch(race, runner);
        }
    }

    /** The RACE is OFF and OFFICIAL with these POSITIONS of RUNNERS 1, 2, ..; what official() answers. */
    static int run(ToteHouse x, int race, int... positions) {
        x.off(race);
        for (int i = 0; i < positions.length; i++) {
            if (positions[i] != 0) {
                x.place(race, i + 1, positions[i]);
            }
        }
        return x.official(race);
    }
}
