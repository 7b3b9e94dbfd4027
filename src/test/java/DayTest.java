/** Promises 1 to 10. */
public final class DayTest {
    private static final int UNKNOWN = ToteHouse.UNKNOWN, OUTSIDE = ToteHouse.OUTSIDE, SAME = ToteHouse.SAME,
            GONE = ToteHouse.GONE, STATE = ToteHouse.STATE, FULL = ToteHouse.FULL;

    private static void due(long got, long want) {
        Check.due(got, want);
    }

    public static void main(String[] args) {
        newObject();
        race();
        pool();
        twin();
        substitute();
        scratch();
        scratchOfTheDouble();
        off();
        place();
        official();
        officialWithFew();
        raceAt();
        Check.end();
    }

    private static void newObject() {
        ToteHouse x = new ToteHouse();
        for (int what = 0; what <= 5; what++) {
            due(x.count(what), 0);
        }
        due(x.rest(), 0);
        due(x.unclaimed(), 0);
        due(x.worstDue(), 0);
        due(x.came(), 0);
        due(x.finding(), 0);
        due(x.trace(0), ToteHouse.NONE);
        due(x.digest(), 17L * 31L);
        for (int window = 0; window < 6; window++) {
            due(x.lose(window), -11);
        }
        for (int s = 0; s < 4; s++) {
            due(x.cash(s), -11);
        }
    }

    private static void race() {
        ToteHouse x = new ToteHouse();
        due(x.race(1), OUTSIDE);
        due(x.race(13), OUTSIDE);
        due(x.race(0), OUTSIDE);
        due(x.race(Given.LEAST), OUTSIDE);
        due(x.race(Given.MOST), OUTSIDE);
        due(x.count(0), 0);
        for (int i = 0; i < 12; i++) {
            due(x.race(i % 2 == 0 ? 2 : 12), i);
            due(x.raceAt(i, 1), i % 2 == 0 ? 2 : 12);
            due(x.raceAt(i, 0), 0);
        }
        due(x.race(13), OUTSIDE);
        due(x.race(5), FULL);
        due(x.count(0), 12);
    }

    private static void pool() {
        ToteHouse x = new ToteHouse();
        due(x.pool(0, 0, 0, 10), UNKNOWN);
        for (int i = 0; i < 12; i++) {
            x.race(4);
        }
        due(x.pool(-1, 0, 0, 10), UNKNOWN);
        due(x.pool(12, 9, -1, 0), UNKNOWN);
        due(x.pool(0, -1, 0, 10), OUTSIDE);
        due(x.pool(0, 4, 0, 10), OUTSIDE);
        due(x.pool(0, 0, -1, 10), OUTSIDE);
        due(x.pool(0, 0, 501, 10), OUTSIDE);
        due(x.pool(0, 0, 0, 0), OUTSIDE);
        due(x.pool(0, 0, 0, 9), OUTSIDE);
        due(x.pool(0, 0, 0, 11), OUTSIDE);
        due(x.pool(0, 0, 0, 15), OUTSIDE);
        due(x.pool(0, 0, 0, 1010), OUTSIDE);
        due(x.pool(0, 0, 0, -10), OUTSIDE);
        due(x.count(1), 0);
        due(x.pool(0, 0, 0, 10), 0);
        due(x.pool(0, 3, 500, 1000), 3);
        due(x.pool(11, 2, 499, 990), 46);
        due(x.pool(11, 3, 1, 20), 47);
        due(x.count(1), 4);
        due(x.pool(0, 0, 0, 11), OUTSIDE);
        due(x.pool(0, 0, 1, 20), SAME);
        x.off(0);
        due(x.pool(0, 0, 0, 10), SAME);
        due(x.pool(0, 1, 0, 10), STATE);
        due(x.pool(0, 1, 501, 10), OUTSIDE);
        due(x.count(1), 4);
        due(x.book(1, 10), UNKNOWN);
    }

    private static void twin() {
        ToteHouse x = new ToteHouse();
        due(x.twin(0, 1, 0, 10), UNKNOWN);
        x.race(4);
        due(x.twin(0, 1, 0, 10), UNKNOWN);
        due(x.twin(1, 0, 0, 10), UNKNOWN);
        x.race(4);
        x.race(4);
        due(x.twin(-1, 1, 0, 10), UNKNOWN);
        due(x.twin(0, 0, 0, 10), OUTSIDE);
        due(x.twin(1, 0, 0, 10), OUTSIDE);
        due(x.twin(0, 1, -1, 10), OUTSIDE);
        due(x.twin(0, 1, 501, 10), OUTSIDE);
        due(x.twin(0, 1, 0, 0), OUTSIDE);
        due(x.twin(0, 1, 0, 1001), OUTSIDE);
        due(x.twin(0, 1, 0, 1010), OUTSIDE);
        x.off(2);
        due(x.twin(0, 2, 0, 10), STATE);
        due(x.count(1), 0);
        due(x.twin(0, 1, 500, 1000), 48);
        due(x.twin(0, 2, 0, 10), SAME);
        due(x.twin(2, 0, 0, 10), OUTSIDE);
        due(x.count(1), 1);
        ToteHouse y = new ToteHouse();
        y.race(2);
        y.race(2);
        y.off(0);
        due(y.twin(0, 1, 0, 10), STATE);
    }

    private static void substitute() {
        ToteHouse x = new ToteHouse();
        due(x.substitute(0, 1), UNKNOWN);
        x.race(4);
        due(x.substitute(0, 0), OUTSIDE);
        due(x.substitute(0, 5), OUTSIDE);
        due(x.substitute(0, -1), OUTSIDE);
        due(x.substitute(0, Given.LEAST), OUTSIDE);
        due(x.substitute(0, Given.MOST), OUTSIDE);
        due(x.substitute(0, 4), 0);
        due(x.substitute(0, 1), 4);
        due(x.substitute(0, 1), 1);
        due(x.raceAt(0, 3), 1);
        x.scratch(0, 2);
        due(x.substitute(0, 2), GONE);
        x.scratch(0, 1);
        due(x.raceAt(0, 3), 1);
        x.off(0);
        due(x.substitute(0, 2), GONE);
        due(x.substitute(0, 3), STATE);
        due(x.substitute(0, 5), OUTSIDE);
        due(x.raceAt(0, 3), 1);
    }

    private static void scratch() {
        ToteHouse x = Given.race(6);
        x.sell(0, 0, 2, 0, 0, 1);
        x.sell(0, 0, 2, 0, 0, 2);
        x.sell(0, 1, 2, 0, 0, 3);
        x.sell(0, 2, 3, 2, 0, 4);
        x.sell(0, 2, 1, 3, 0, 5);
        x.sell(0, 3, 1, 3, 2, 6);
        x.sell(0, 3, 2, 3, 1, 7);
        x.sell(0, 3, 4, 2, 1, 8);
        x.sell(0, 0, 1, 0, 0, 9);
        x.cancel(1);
        x.race(6);
        x.pool(1, 0, 0, 10);
        x.sell(0, 4, 2, 0, 0, 1);
        due(x.scratch(2, 2), UNKNOWN);
        due(x.scratch(-1, 2), UNKNOWN);
        due(x.scratch(0, 0), OUTSIDE);
        due(x.scratch(0, 7), OUTSIDE);
        due(x.scratch(0, 2), 6);
        due(x.scratch(0, 2), GONE);
        int[] states = {2, 1, 2, 2, 0, 2, 2, 2, 0, 0};
        for (int i = 0; i < states.length; i++) {
            due(x.ticket(i, 5), states[i]);
        }
        due(x.book(0, 2), 10);
        due(x.book(0, 1), 20);
        due(x.book(1, 2), 30);
        due(x.book(2, 2), 40);
        due(x.book(3, 2), 210);
        due(x.raceAt(0, 2), 5);
        due(x.raceAt(0, 12), -1);
        due(x.scratch(0, 6), 0);
        x.off(0);
        due(x.scratch(0, 6), GONE);
        due(x.scratch(0, 7), OUTSIDE);
        due(x.scratch(0, 1), STATE);
        due(x.raceAt(0, 2), 4);
        ToteHouse all = Given.race(2);
        all.sell(0, 2, 1, 2, 0, 1);
        due(all.scratch(0, 1), 1);
        due(all.scratch(0, 2), 0);
        due(all.raceAt(0, 2), 0);
    }

    private static void scratchOfTheDouble() {
        ToteHouse x = Given.twoRaces();
        x.sell(0, 48, 1, 2, 0, 1);
        x.sell(0, 48, 2, 1, 0, 1);
        x.sell(0, 48, 2, 2, 0, 1);
        x.sell(0, 0, 2, 0, 0, 1);
        x.sell(0, 4, 2, 0, 0, 1);
        due(x.substitute(0, 3), 0);
        due(x.scratch(0, 2), 3);
        due(x.ticket(0, 1), 1);
        due(x.ticket(0, 2), 2);
        due(x.ticket(1, 1), 3);
        due(x.ticket(1, 2), 1);
        due(x.ticket(2, 1), 3);
        due(x.ticket(2, 2), 2);
        due(x.ticket(2, 5), 0);
        due(x.ticket(3, 5), 2);
        due(x.ticket(4, 5), 0);
        due(x.units(48, 3, 2, 0), 1);
        due(x.units(48, 2, 2, 0), 0);
        // The SUBSTITUTE itself is taken OUT: there is none that is not OUT.
        due(x.scratch(0, 3), 2);
        due(x.ticket(1, 5), 2);
        due(x.ticket(2, 5), 2);
        due(x.ticket(1, 1), 3);
        // A SUBSTITUTE of the other RACE does not count, one that is OUT neither.
        due(x.substitute(1, 4), 0);
        due(x.scratch(0, 1), 1);
        due(x.ticket(0, 5), 2);
        x.sell(0, 48, 4, 2, 0, 7);
        due(x.scratch(1, 4), 0);
        due(x.scratch(1, 2), 2);
        due(x.ticket(5, 5), 2);
        due(x.book(48, 2), 100);
        // Of THE DOUBLE's SECOND RACE, when the FIRST is OFF already.
        ToteHouse y = Given.twoRaces();
        y.sell(0, 48, 3, 3, 0, 1);
        y.sell(0, 48, 3, 3, 0, 1);
        y.cancel(1);
        y.off(0);
        y.substitute(1, 1);
        due(y.scratch(1, 3), 1);
        due(y.ticket(0, 1), 3);
        due(y.ticket(0, 2), 1);
        due(y.ticket(1, 2), 3);
    }

    private static void off() {
        ToteHouse x = new ToteHouse();
        due(x.off(0), UNKNOWN);
        x.race(5);
        due(x.off(-1), UNKNOWN);
        due(x.off(1), UNKNOWN);
        x.scratch(0, 5);
        due(x.off(0), 4);
        due(x.raceAt(0, 0), 1);
        due(x.off(0), STATE);
        x.race(2);
        x.scratch(1, 1);
        x.scratch(1, 2);
        due(x.off(1), 0);
        due(Given.run(x, 1), 0);
        due(x.off(1), STATE);
    }

    private static void place() {
        ToteHouse x = new ToteHouse();
        due(x.place(0, 1, 1), UNKNOWN);
        x.race(5);
        due(x.place(-1, 1, 1), UNKNOWN);
        due(x.place(1, 0, 13), UNKNOWN);
        due(x.place(0, 1, 1), STATE);
        x.scratch(0, 5);
        due(x.place(0, 5, 1), GONE);
        due(x.place(0, 5, 13), OUTSIDE);
        x.off(0);
        due(x.place(0, 0, 1), OUTSIDE);
        due(x.place(0, 6, 1), OUTSIDE);
        due(x.place(0, Given.LEAST, 1), OUTSIDE);
        due(x.place(0, 1, -1), OUTSIDE);
        due(x.place(0, 1, 13), OUTSIDE);
        due(x.place(0, 5, 1), GONE);
        due(x.place(0, 1, 12), 0);
        due(x.place(0, 1, 1), 12);
        due(x.place(0, 2, 1), 0);
        due(x.place(0, 1, 0), 1);
        due(x.raceAt(0, 11), 0);
        due(x.raceAt(0, 12), 1);
        due(x.place(0, 1, 1), 0);
        due(x.place(0, 3, 3), 0);
        due(x.official(0), 0);
        due(x.place(0, 1, 2), STATE);
        due(x.place(0, 5, 2), GONE);
        due(x.raceAt(0, 11), 1);
    }

    private static void official() {
        ToteHouse x = Given.twoRaces();
        due(x.official(2), UNKNOWN);
        due(x.official(-1), UNKNOWN);
        due(x.official(0), STATE);
        x.off(0);
        due(x.official(0), STATE);
        int[][] wrong = {{1, 2, 0}, {1, 2, 4}, {2, 3, 4}, {1, 2, 2, 3}, {1, 1, 2}, {1, 1, 1, 3}, {1, 3, 3}};
        for (int[] positions : wrong) {
            for (int i = 0; i < 6; i++) {
                x.place(0, i + 1, i < positions.length ? positions[i] : 0);
            }
            due(x.official(0), STATE);
            due(x.raceAt(0, 0), 1);
            due(x.book(0, 10), 0);
        }
        int[] right = {3, 1, 1, 3, 3, 6};
        for (int i = 0; i < 6; i++) {
            x.place(0, i + 1, right[i]);
        }
        due(x.official(0), 4);
        due(x.raceAt(0, 0), 2);
        due(x.official(0), STATE);
        due(x.book(0, 10), 1);
        due(x.book(3, 10), 1);
        due(x.book(4, 10), 0);
        due(x.book(48, 10), 0);
        due(Given.run(x, 1, 1, 1, 1), 5);
        due(x.book(48, 10), 1);
        // THE DOUBLE also when the SECOND is the first that is OFFICIAL; without POOLS there is nothing to settle.
        ToteHouse y = new ToteHouse();
        y.race(3);
        y.race(3);
        y.race(3);
        y.twin(0, 1, 0, 10);
        due(Given.run(y, 1, 1, 2, 3), 0);
        due(Given.run(y, 2, 1, 2, 3), 0);
        due(Given.run(y, 0, 1, 2, 3), 1);
    }

    private static void officialWithFew() {
        ToteHouse x = Given.race(4);
        x.scratch(0, 1);
        x.scratch(0, 2);
        x.off(0);
        x.place(0, 3, 1);
        due(x.official(0), STATE);
        x.place(0, 4, 1);
        due(x.official(0), 4);
        ToteHouse one = Given.race(2);
        one.scratch(0, 2);
        due(Given.run(one, 0), STATE);
        due(Given.run(one, 0, 2), STATE);
        due(Given.run(one, 0, 1), 4);
        ToteHouse none = Given.race(2);
        none.scratch(0, 2);
        none.scratch(0, 1);
        due(Given.run(none, 0), 4);
    }

    private static void raceAt() {
        ToteHouse x = new ToteHouse();
        due(x.raceAt(0, 0), UNKNOWN);
        x.race(12);
        x.race(2);
        due(x.raceAt(2, 99), UNKNOWN);
        due(x.raceAt(-1, 0), UNKNOWN);
        due(x.raceAt(0, -1), OUTSIDE);
        due(x.raceAt(0, 5), OUTSIDE);
        due(x.raceAt(0, 9), OUTSIDE);
        due(x.raceAt(0, 10), OUTSIDE);
        due(x.raceAt(0, 23), OUTSIDE);
        due(x.raceAt(1, 13), OUTSIDE);
        due(x.raceAt(0, Given.LEAST), OUTSIDE);
        due(x.raceAt(0, Given.MOST), OUTSIDE);
        due(x.raceAt(0, 22), 0);
        due(x.raceAt(1, 12), 0);
        due(x.raceAt(0, 1), 12);
        due(x.raceAt(0, 2), 12);
        due(x.raceAt(0, 3), 0);
        due(x.raceAt(0, 4), 0);
        x.scratch(0, 12);
        x.scratch(0, 1);
        due(x.raceAt(0, 1), 12);
        due(x.raceAt(0, 2), 10);
        due(x.raceAt(0, 22), -1);
        due(x.raceAt(0, 11), -1);
        x.off(0);
        due(x.raceAt(0, 0), 1);
        x.place(0, 11, 12);
        due(x.raceAt(0, 21), 12);
        // CARRIED IN is told in MoneyTest; without an ORDER it is 0.
        due(x.raceAt(1, 4), 0);
    }
}
