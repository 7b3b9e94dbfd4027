/** Promises 24 to 35. */
public final class DrawersTest {
    private static final int UNKNOWN = ToteHouse.UNKNOWN, OUTSIDE = ToteHouse.OUTSIDE, NONE = ToteHouse.NONE;
    private static final int NULL = -11, INDEX = -12, CAST = -13, SIZE = -15;

    private static void due(long got, long want) {
        Check.due(got, want);
    }

    public static void main(String[] args) {
        drawer();
        lose();
        keep();
        note();
        coins();
        clear();
        kind();
        read();
        letter();
        coin();
        coinAt();
        change();
        Check.end();
    }

    /** SLIPS of WINDOW 0: NOTHING, a TICKET of ORDER, a NOTE of three, a ROW of two. */
    private static ToteHouse filled() {
        ToteHouse x = Given.tickets();
        x.drawer(0, 4);
        x.keep(0, 1, 3);
        x.note(0, 2, 0x1122334455667788L, 3);
        x.coins(0, 3, 2);
        return x;
    }

    private static void drawer() {
        ToteHouse x = new ToteHouse();
        due(x.drawer(-1, 3), UNKNOWN);
        due(x.drawer(6, 13), UNKNOWN);
        due(x.drawer(6, -1), UNKNOWN);
        due(x.drawer(0, 13), OUTSIDE);
        due(x.drawer(0, Given.MOST), OUTSIDE);
        due(x.finding(), 0);
        due(x.drawer(0, -1), SIZE);
        due(x.drawer(0, Given.LEAST), SIZE);
        due(x.finding(), 5);
        due(x.count(15), 2);
        due(x.kind(0, 0), NULL);
        due(x.drawer(0, 0), 0);
        due(x.kind(0, 0), INDEX);
        due(x.drawer(5, 12), 12);
        due(x.kind(5, 11), NONE);
        due(x.kind(5, 12), INDEX);
        due(x.note(5, 11, 1L, 1), 1);
        due(x.drawer(5, -1), SIZE);
        due(x.drawer(5, 13), OUTSIDE);
        due(x.kind(5, 11), 5);
        due(x.drawer(5, 12), 12);
        due(x.kind(5, 11), NONE);
        due(x.kind(4, 0), NULL);
    }

    private static void lose() {
        ToteHouse x = new ToteHouse();
        due(x.lose(-1), UNKNOWN);
        due(x.lose(6), UNKNOWN);
        due(x.lose(0), NULL);
        due(x.count(11), 1);
        x.drawer(0, 12);
        x.drawer(1, 0);
        due(x.lose(0), 12);
        due(x.lose(0), NULL);
        due(x.lose(1), 0);
        due(x.kind(1, 0), NULL);
    }

    private static void keep() {
        ToteHouse x = Given.tickets();
        due(x.keep(-1, 0, 0), UNKNOWN);
        due(x.keep(6, 0, 0), UNKNOWN);
        due(x.keep(0, 0, 5), UNKNOWN);
        due(x.keep(0, 0, -1), UNKNOWN);
        due(x.count(11), 0);
        due(x.keep(0, 0, 0), NULL);
        x.drawer(0, 2);
        due(x.keep(0, 2, 5), UNKNOWN);
        due(x.keep(0, 2, 0), INDEX);
        due(x.keep(0, -1, 0), INDEX);
        due(x.keep(0, Given.MOST, 0), INDEX);
        due(x.keep(0, Given.LEAST, 0), INDEX);
        due(x.keep(0, 0, 0), 1);
        due(x.keep(0, 1, 4), 1);
        due(x.read(0, 0), 0);
        due(x.read(0, 1), 4);
        x.coins(0, 0, 1);
        due(x.keep(0, 0, 2), 1);
        due(x.read(0, 0), 2);
    }

    private static void note() {
        ToteHouse x = new ToteHouse();
        due(x.note(-1, 0, 0L, 0), UNKNOWN);
        due(x.note(6, 0, 0L, 1), UNKNOWN);
        due(x.note(0, 0, 0L, 0), OUTSIDE);
        due(x.note(0, 0, 0L, 5), OUTSIDE);
        due(x.note(0, 0, 0L, -1), OUTSIDE);
        due(x.note(0, 0, 0L, 1), NULL);
        x.drawer(0, 2);
        due(x.note(0, 2, 0L, 5), OUTSIDE);
        due(x.note(0, 2, 0L, 4), INDEX);
        due(x.note(0, -1, 0L, 1), INDEX);
        long letters = 0xFEDC_8000_0001_7FFFL;
        int[] chars = {0xFEDC, 0x8000, 0x0001, 0x7FFF};
        for (int n = 1; n <= 4; n++) {
            due(x.note(0, 1, letters, n), n);
            for (int k = 0; k < n; k++) {
                due(x.letter(0, 1, k), chars[4 - n + k]);
            }
            due(x.letter(0, 1, n), INDEX);
        }
        due(x.note(0, 0, -1L, 2), 2);
        due(x.letter(0, 0, 0), 65535);
        due(x.letter(0, 0, 1), 65535);
    }

    private static void coins() {
        ToteHouse x = new ToteHouse();
        due(x.coins(-1, 0, 9), UNKNOWN);
        due(x.coins(6, 0, -1), UNKNOWN);
        due(x.coins(0, 0, 9), OUTSIDE);
        due(x.coins(0, 0, Given.MOST), OUTSIDE);
        due(x.coins(0, 0, -1), NULL);
        x.drawer(0, 1);
        due(x.coins(0, 1, 9), OUTSIDE);
        due(x.coins(0, 1, -1), INDEX);
        due(x.coins(0, -1, 1), INDEX);
        due(x.coins(0, 0, -1), SIZE);
        due(x.coins(0, 0, Given.LEAST), SIZE);
        due(x.kind(0, 0), NONE);
        due(x.coins(0, 0, 8), 8);
        for (int k = 0; k < 8; k++) {
            due(x.coinAt(0, 0, k), 0);
            due(x.coin(0, 0, k, k + 1), 1);
        }
        due(x.coin(0, 0, 8, 1), INDEX);
        due(x.coins(0, 0, -1), SIZE);
        due(x.coinAt(0, 0, 7), 8);
        due(x.coins(0, 0, 8), 8);
        due(x.coinAt(0, 0, 7), 0);
        due(x.coins(0, 0, 0), 0);
        due(x.kind(0, 0), 6);
        due(x.coin(0, 0, 0, 1), INDEX);
    }

    private static void clear() {
        ToteHouse x = filled();
        due(x.clear(-1, 0), UNKNOWN);
        due(x.clear(6, 0), UNKNOWN);
        due(x.clear(1, 0), NULL);
        due(x.clear(0, 4), INDEX);
        due(x.clear(0, -1), INDEX);
        due(x.clear(0, 0), NONE);
        due(x.clear(0, 1), 3);
        due(x.clear(0, 2), 5);
        due(x.clear(0, 3), 6);
        for (int i = 0; i < 4; i++) {
            due(x.kind(0, i), NONE);
        }
    }

    private static void kind() {
        ToteHouse x = filled();
        due(x.kind(-1, 0), UNKNOWN);
        due(x.kind(6, 0), UNKNOWN);
        due(x.kind(5, 0), NULL);
        due(x.kind(0, 4), INDEX);
        due(x.kind(0, Given.LEAST), INDEX);
        due(x.kind(0, 0), NONE);
        due(x.kind(0, 2), 5);
        due(x.kind(0, 3), 6);
        for (int t = 0; t < 5; t++) {
            x.keep(0, 0, t);
            due(x.kind(0, 0), t);
        }
    }

    private static void read() {
        ToteHouse x = filled();
        due(x.read(-1, 0), UNKNOWN);
        due(x.read(6, 0), UNKNOWN);
        due(x.read(1, 9), NULL);
        due(x.read(0, 4), INDEX);
        due(x.read(0, -1), INDEX);
        due(x.read(0, 0), NULL);
        due(x.read(0, 2), CAST);
        due(x.read(0, 3), CAST);
        due(x.read(0, 1), 3);
        due(x.count(11), 2);
        due(x.count(12), 2);
        due(x.count(13), 2);
        due(x.finding(), 3);
    }

    private static void letter() {
        ToteHouse x = filled();
        due(x.letter(6, 2, 0), UNKNOWN);
        due(x.letter(-1, 2, 0), UNKNOWN);
        due(x.letter(1, 9, 9), NULL);
        due(x.letter(0, 4, 9), INDEX);
        due(x.letter(0, -1, 0), INDEX);
        due(x.letter(0, 0, 9), NULL);
        due(x.letter(0, 1, 9), CAST);
        due(x.letter(0, 3, 0), CAST);
        due(x.letter(0, 2, 3), INDEX);
        due(x.letter(0, 2, -1), INDEX);
        due(x.letter(0, 2, Given.LEAST), INDEX);
        due(x.letter(0, 2, 0), 0x3344);
        due(x.letter(0, 2, 1), 0x5566);
        due(x.letter(0, 2, 2), 0x7788);
    }

    private static void coin() {
        ToteHouse x = filled();
        due(x.coin(6, 3, 0, 1), UNKNOWN);
        due(x.coin(-1, 3, 0, 1), UNKNOWN);
        due(x.coin(1, 9, 9, 1), NULL);
        due(x.coin(0, 4, 9, 1), INDEX);
        due(x.coin(0, 0, 9, 1), NULL);
        due(x.coin(0, 1, 9, 1), CAST);
        due(x.coin(0, 2, 0, 1), CAST);
        due(x.coin(0, 3, 2, 1), INDEX);
        due(x.coin(0, 3, -1, 1), INDEX);
        due(x.coin(0, 3, 0, Given.LEAST), 1);
        due(x.coin(0, 3, 1, Given.MOST), 1);
        due(x.coinAt(0, 3, 0), Given.LEAST);
        due(x.coinAt(0, 3, 1), Given.MOST);
    }

    private static void finds(ToteHouse x, long answer, int number) {
        due(answer, 0);
        due(x.finding(), number);
        // Another one behind it, so that the next look sees a new one.
        x.premium(0);
        x.coins(0, 3, -1);
    }

    private static void coinAt() {
        ToteHouse x = filled();
        x.coin(0, 3, 0, 7);
        due(x.coinAt(6, 3, 0), 0);
        due(x.coinAt(-1, 3, 0), 0);
        due(x.finding(), 0);
        finds(x, x.coinAt(1, 9, 9), 1);
        finds(x, x.coinAt(0, 4, 9), 2);
        finds(x, x.coinAt(0, 0, 9), 1);
        finds(x, x.coinAt(0, 1, 9), 3);
        finds(x, x.coinAt(0, 2, 0), 3);
        finds(x, x.coinAt(0, 3, 2), 2);
        finds(x, x.coinAt(0, 3, -1), 2);
        due(x.count(11), 2);
        due(x.count(12), 3);
        due(x.count(13), 2);
        due(x.coinAt(0, 3, 0), 7);
    }

    private static void change() {
        ToteHouse x = filled();
        due(x.change(6, 3, 0, 1), 0);
        due(x.finding(), 0);
        finds(x, x.change(1, 9, 9, 9), 1);
        finds(x, x.change(0, 4, 9, 9), 2);
        finds(x, x.change(0, 0, 9, 9), 1);
        finds(x, x.change(0, 1, 9, 9), 3);
        finds(x, x.change(0, 2, 0, 0), 3);
        finds(x, x.change(0, 3, 2, 0), 2);
        finds(x, x.change(0, 3, 0, 2), 2);
        finds(x, x.change(0, 3, -1, -1), 2);
        finds(x, x.change(0, 3, 0, -1), 2);
        due(x.count(12), 5);
        due(x.count(16), 0);
        due(x.change(0, 3, 0, 1), 0);
        due(x.finding(), 6);
        due(x.count(16), 1);
        int[][] rows = {{7, 2, 3}, {-7, 2, -3}, {7, -2, -3}, {-7, -2, 3}, {1, 2, 0}, {Given.LEAST, -1, Given.LEAST},
            {Given.MOST, -1, -Given.MOST}, {Given.LEAST, Given.MOST, -1}, {0, 5, 0}};
        for (int[] row : rows) {
            x.coin(0, 3, 0, row[0]);
            x.coin(0, 3, 1, row[1]);
            due(x.change(0, 3, 0, 1), row[2]);
            due(x.coinAt(0, 3, 0), row[0]);
            due(x.coinAt(0, 3, 1), row[1]);
        }
        due(x.change(0, 3, 1, 1), 1);
        due(x.count(16), 1);
    }
}
