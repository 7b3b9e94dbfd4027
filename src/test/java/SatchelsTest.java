/** Promises 36 to 41. */
public final class SatchelsTest {
    private static final int UNKNOWN = ToteHouse.UNKNOWN, OUTSIDE = ToteHouse.OUTSIDE, NONE = ToteHouse.NONE;
    private static final int NULL = -11, INDEX = -12, STORE = -14, SIZE = -15;

    private static void due(long got, long want) {
        Check.due(got, want);
    }

    public static void main(String[] args) {
        satchel();
        forms();
        gather();
        gatherOrder();
        shift();
        shiftWithinOne();
        shiftForms();
        held();
        cash();
        Check.end();
    }

    /** WINDOW 0 has TICKETS 0 .. 4, by their KINDS, then NOTHING, a NOTE, a ROW. */
    private static ToteHouse filled() {
        ToteHouse x = Given.tickets();
        x.drawer(0, 8);
        for (int t = 0; t < 5; t++) {
            x.keep(0, t, t);
        }
        x.note(0, 6, 65L, 1);
        x.coins(0, 7, 1);
        return x;
    }

    private static void satchel() {
        ToteHouse x = filled();
        due(x.satchel(-1, 0, 1), UNKNOWN);
        due(x.satchel(4, 9, 11), UNKNOWN);
        due(x.satchel(0, -1, 1), OUTSIDE);
        due(x.satchel(0, 6, -1), OUTSIDE);
        due(x.satchel(0, 0, 11), OUTSIDE);
        due(x.finding(), 0);
        due(x.satchel(0, 0, -1), SIZE);
        due(x.satchel(0, 0, Given.LEAST), SIZE);
        due(x.finding(), 5);
        due(x.held(0, 0), NULL);
        due(x.satchel(0, 0, 10), 10);
        due(x.satchel(3, 5, 0), 0);
        due(x.held(3, 0), INDEX);
        due(x.held(0, 9), NONE);
        due(x.gather(0, 9, 0, 0, 1), 1);
        due(x.held(0, 9), 0);
        due(x.satchel(0, 0, -1), SIZE);
        due(x.satchel(0, 6, 2), OUTSIDE);
        due(x.held(0, 9), 0);
        due(x.satchel(0, 0, 10), 10);
        due(x.held(0, 9), NONE);
    }

    private static void forms() {
        int[][] takes = {{1, 1, 1, 1, 1}, {1, 1, 0, 0, 0}, {0, 0, 1, 1, 0}, {0, 0, 0, 1, 0}, {0, 0, 0, 0, 1},
            {0, 1, 0, 0, 0}};
        for (int form = 0; form <= 5; form++) {
            ToteHouse x = filled();
            x.satchel(1, form, 1);
            for (int kind = 0; kind < 5; kind++) {
                due(x.gather(1, 0, 0, kind, 1), takes[form][kind] == 1 ? 1 : STORE);
                due(x.held(1, 0), takes[form][kind] == 1 ? kind : NONE);
                due(x.came(), takes[form][kind]);
                due(x.gather(1, 0, 0, 5, 1), 1);
                due(x.held(1, 0), NONE);
            }
            due(x.gather(1, 0, 0, 6, 1), STORE);
            due(x.gather(1, 0, 0, 7, 1), STORE);
        }
    }

    private static void gather() {
        ToteHouse x = filled();
        x.satchel(0, 0, 6);
        due(x.gather(0, 0, 0, 0, 3), 3);
        due(x.came(), 3);
        due(x.gather(-1, 0, 0, 0, 1), UNKNOWN);
        due(x.gather(4, 0, 0, 0, 99), UNKNOWN);
        due(x.gather(0, 0, -1, 0, 1), UNKNOWN);
        due(x.gather(0, 0, 6, 0, 1), UNKNOWN);
        due(x.gather(0, 0, 0, 0, -1), OUTSIDE);
        due(x.gather(0, 0, 0, 0, 13), OUTSIDE);
        due(x.came(), 3);
        due(x.finding(), 0);
        // Of none nothing is looked at.
        due(x.gather(3, 99, 5, -7, 0), 0);
        due(x.came(), 0);
        due(x.gather(0, 1, 0, 2, 5), STORE);
        due(x.came(), 4);
        int[] places = {0, 2, 3, 4, NONE, NONE};
        for (int i = 0; i < 6; i++) {
            due(x.held(0, i), places[i]);
        }
        due(x.kind(0, 2), 2);
        due(x.gather(0, 4, 0, 0, 3), INDEX);
        due(x.came(), 2);
        due(x.held(0, 4), 0);
        due(x.held(0, 5), 1);
        x.clear(0, 7);
        x.clear(0, 6);
        due(x.gather(0, 3, 0, 5, 12), INDEX);
        due(x.came(), 3);
        due(x.held(0, 3), NONE);
        due(x.held(0, 5), NONE);
        x.drawer(1, 12);
        x.satchel(1, 0, 10);
        due(x.gather(1, 0, 1, 0, 12), INDEX);
        due(x.came(), 10);
    }

    private static void gatherOrder() {
        ToteHouse x = filled();
        due(x.gather(0, 99, 1, 99, 1), NULL);
        due(x.gather(0, 99, 0, 8, 1), INDEX);
        due(x.gather(0, 99, 0, -1, 1), INDEX);
        due(x.gather(0, 99, 0, 6, 1), NULL);
        x.satchel(0, 0, 1);
        due(x.gather(0, 1, 0, 6, 1), INDEX);
        due(x.gather(0, -1, 0, 6, 1), INDEX);
        due(x.gather(0, Given.MOST, 0, 0, 2), INDEX);
        due(x.gather(0, 0, 0, Given.MOST, 2), INDEX);
        due(x.gather(0, Given.LEAST, 0, Given.LEAST, 2), INDEX);
        due(x.gather(0, 0, 0, 6, 1), STORE);
        due(x.came(), 0);
        due(x.count(11), 2);
        due(x.count(12), 7);
        due(x.count(14), 1);
        due(x.finding(), 4);
    }

    private static void shift() {
        ToteHouse x = filled();
        due(x.shift(-1, 0, 0, 0, 1), UNKNOWN);
        due(x.shift(0, 0, 4, 0, 99), UNKNOWN);
        due(x.shift(0, 0, 0, 0, -1), OUTSIDE);
        due(x.shift(0, 0, 0, 0, 11), OUTSIDE);
        due(x.finding(), 0);
        x.satchel(0, 0, 5);
        x.gather(0, 0, 0, 0, 4);
        due(x.came(), 4);
        due(x.shift(4, 0, 0, 0, 1), UNKNOWN);
        due(x.shift(0, 0, 0, 0, 11), OUTSIDE);
        due(x.came(), 4);
        // Without one of the SATCHELS, also of none.
        due(x.shift(0, 0, 1, 0, 0), NULL);
        due(x.came(), 0);
        due(x.shift(1, 9, 0, 9, 1), NULL);
        x.satchel(1, 0, 3);
        due(x.shift(0, 5, 1, 0, 0), 0);
        due(x.shift(0, 5, 1, 0, 1), INDEX);
        due(x.shift(0, -1, 1, 0, 1), INDEX);
        due(x.shift(0, 0, 1, 3, 1), INDEX);
        due(x.shift(0, 0, 1, -1, 1), INDEX);
        due(x.shift(0, Given.MOST, 1, 0, 2), INDEX);
        due(x.shift(0, 0, 1, Given.MOST, 2), INDEX);
        due(x.came(), 0);
        due(x.shift(0, 2, 1, 0, 3), 3);
        due(x.came(), 3);
        due(x.held(1, 0), 2);
        due(x.held(1, 1), 3);
        due(x.held(1, 2), NONE);
        due(x.held(0, 2), 2);
        due(x.shift(0, 0, 1, 1, 5), INDEX);
        due(x.came(), 2);
        due(x.held(1, 1), 0);
        due(x.held(1, 2), 1);
        due(x.shift(0, 4, 1, 0, 2), INDEX);
        due(x.came(), 1);
        due(x.held(1, 0), NONE);
        x.satchel(2, 0, 10);
        x.satchel(3, 0, 10);
        due(x.shift(2, 0, 3, 0, 10), 10);
    }

    private static void shiftWithinOne() {
        ToteHouse x = filled();
        x.satchel(0, 0, 5);
        x.gather(0, 0, 0, 0, 5);
        due(x.shift(0, 0, 0, 1, 4), 4);
        int[] right = {0, 0, 1, 2, 3};
        for (int i = 0; i < 5; i++) {
            due(x.held(0, i), right[i]);
        }
        x.gather(0, 0, 0, 0, 5);
        due(x.shift(0, 2, 0, 0, 3), 3);
        int[] left = {2, 3, 4, 3, 4};
        for (int i = 0; i < 5; i++) {
            due(x.held(0, i), left[i]);
        }
        x.gather(0, 0, 0, 0, 5);
        due(x.shift(0, 0, 0, 2, 5), INDEX);
        due(x.came(), 3);
        int[] cut = {0, 1, 0, 1, 2};
        for (int i = 0; i < 5; i++) {
            due(x.held(0, i), cut[i]);
        }
    }

    private static void shiftForms() {
        ToteHouse x = filled();
        x.satchel(0, 0, 6);
        x.gather(0, 0, 0, 0, 6);
        x.satchel(1, 1, 6);
        due(x.shift(0, 0, 1, 0, 6), STORE);
        due(x.came(), 2);
        due(x.held(1, 1), 1);
        due(x.held(1, 2), NONE);
        due(x.finding(), 4);
        // The place ahead of what is taken.
        due(x.shift(0, 2, 1, 6, 1), INDEX);
        x.satchel(2, 3, 1);
        due(x.shift(0, 3, 2, 0, 1), 1);
        due(x.shift(0, 5, 2, 0, 1), 1);
        due(x.held(2, 0), NONE);
    }

    private static void held() {
        ToteHouse x = filled();
        due(x.held(-1, 0), UNKNOWN);
        due(x.held(4, 0), UNKNOWN);
        due(x.held(0, 99), NULL);
        x.satchel(0, 0, 2);
        due(x.held(0, 2), INDEX);
        due(x.held(0, -1), INDEX);
        due(x.held(0, Given.LEAST), INDEX);
        due(x.held(0, 0), NONE);
        x.gather(0, 1, 0, 4, 1);
        due(x.held(0, 1), 4);
        due(x.count(11), 1);
        due(x.count(12), 3);
    }

    private static void cash() {
        ToteHouse x = filled();
        due(x.cash(-1), UNKNOWN);
        due(x.cash(4), UNKNOWN);
        due(x.cash(0), NULL);
        x.satchel(0, 0, 8);
        due(x.cash(0), 0);
        x.gather(0, 0, 0, 0, 6);
        x.gather(0, 6, 0, 0, 1);
        due(x.cash(0), 0);
        due(x.ticket(0, 5), 0);
        x.cancel(1);
        Given.run(x, 0, 1, 2, 3);
        x.pay(2);
        due(x.cash(0), 80);
        due(x.ticket(0, 5), 3);
        due(x.ticket(1, 5), 1);
        due(x.ticket(3, 5), 3);
        due(x.ticket(4, 5), 0);
        due(x.book(0, 9), 40);
        due(x.cash(0), 0);
        due(x.held(0, 0), 0);
        Given.run(x, 1, 1, 2, 3);
        due(x.cash(0), 40);
        due(x.book(48, 9), 40);
    }
}
