/** A day with something in every corner, what is true of it, and looks at each corner; all within 512 calls. */
final class GridDay {
    /** Nothing at all; all but THE DOUBLE; with it; and with all the RACES, TICKETS, LAPS that there may be. */
    static final GridDay NEW = new GridDay(0), SINGLE = new GridDay(1), DOUBLED = new GridDay(2), FULL = new GridDay(3);

    private static final int[] STATES = {2, 1, 0, 0, 2, 1, 1, 0, 1, 0, 0, 0};
    private static final int[] RUNNERS = {6, 6, 6, 6, 2, 6, 6, 6, 3, 2, 2, 2};
    private static final int[] LEFT = {5, 5, 5, 1, 0, 6, 6, 6, 3, 2, 2, 2};
    private static final int[] POOLS = {0, 1, 2, 3, 4, 6, 7, 8, 10, 11, 12};
    /** By TICKET: its state, and whether its RACE is SELLING, its POOL SETTLED. */
    private static final int[] TICKET_STATES = {3, 0, 0, 0, 0, 0, 1, 2, 0, 2};
    private static final int[] TICKET_RACES = {0, 0, 0, 0, 1, 2, 2, 2, 0, 1};
    /** By place: what SATCHELS 0, 1 have. */
    private static final int NOTHING = -1, NOTE = 5, ROW = 6;
    private static final int[] SLIPS = {0, 2, NOTE, ROW, NOTHING, ROW, 3, NOTHING};
    private static final int[] COINS = {17, 5, 0};
    private static final int[][] PLACES = {{0, 2, NOTHING}, {0, NOTHING}, {}};

    private final int size;

    private GridDay(int size) {
        this.size = size;
    }

    ToteHouse begin() {
        ToteHouse x = new ToteHouse();
        if (size == 0) {
            return x;
        }
        races(x);
        tickets(x);
        results(x);
        corners(x);
        return x;
    }

    private void races(ToteHouse x) {
        for (int race = 0; race < races(); race++) {
            x.race(RUNNERS[race]);
        }
        for (int pool : POOLS) {
            x.pool(pool / 4, pool % 4, 100, 10);
        }
        if (size > 1) {
            x.twin(2, 7, 100, 10);
        }
    }

    private void tickets(ToteHouse x) {
        int[][] sold = {{0, 1, 0, 0}, {0, 2, 0, 0}, {2, 1, 2, 0}, {3, 1, 2, 3}, {4, 1, 0, 0}, {8, 1, 0, 0},
            {8, 1, 0, 0}, {8, 6, 0, 0}, {1, 1, 0, 0}, {4, 6, 0, 0}};
        for (int t = 0; t < sold.length; t++) {
            x.sell(t % 6, sold[t][0], sold[t][1], sold[t][2], sold[t][3], t + 3);
        }
        if (size > 1) {
            x.sell(5, 48, 1, 1, 0, 7);
        }
        for (int t = 11; t < tickets(); t++) {
            x.sell(t % 6, 8, 1 + t % 5, 0, 0, 1);
        }
        x.cancel(6);
        for (int race = 0; race < 3; race++) {
            x.scratch(race, 6);
        }
        x.substitute(2, 3);
        Given.without(x, 3, 2, 6);
        Given.without(x, 4, 1, 2);
    }

    private static void results(ToteHouse x) {
        Given.run(x, 0, 1, 2, 3);
        Given.run(x, 4);
        x.off(1);
        x.place(1, 1, 1);
        x.place(1, 2, 3);
        x.off(5);
        x.off(6);
        x.place(6, 1, 1);
        x.place(6, 2, 2);
        x.place(6, 3, 4);
        x.off(8);
        for (int runner = 1; runner <= 3; runner++) {
            x.place(8, runner, runner);
        }
        x.pay(0);
    }

    private void corners(ToteHouse x) {
        x.drawer(0, SLIPS.length);
        x.keep(0, 0, 5);
        x.keep(0, 1, 2);
        x.note(0, 2, 0x004100420043L, 3);
        x.coins(0, 3, 3);
        x.coin(0, 3, 0, COINS[0]);
        x.coin(0, 3, 1, COINS[1]);
        x.coins(0, 5, 0);
        x.keep(0, 6, 3);
        x.drawer(2, 0);
        x.satchel(0, 0, 3);
        x.satchel(1, 1, 2);
        x.satchel(2, 0, 0);
        x.gather(1, 0, 0, 0, 1);
        x.gather(0, 0, 0, 0, 2);
        for (int k = 0; k < laps(); k++) {
            x.lap(0, 0x3F800000 + k);
        }
        x.worst(2);
        x.lose(3);
        x.ask(3, 1);
    }

    private int races() {
        return size == 0 ? 0 : size == 3 ? 12 : 9;
    }

    private int tickets() {
        return size == 0 ? 0 : size == 1 ? 10 : size == 2 ? 11 : 200;
    }

    private int laps() {
        return size == 0 ? 0 : size == 3 ? 12 : 2;
    }

    // ---- what is true of it

    boolean hasRace(int race) {
        return race >= 0 && race < races();
    }

    boolean isFullOfRaces() {
        return races() == 12;
    }

    boolean isIn(int race, int state) {
        return hasRace(race) && STATES[race] == state;
    }

    boolean isNotIn(int race, int state) {
        return hasRace(race) && STATES[race] != state;
    }

    int left(int race) {
        return hasRace(race) ? LEFT[race] : 12;
    }

    /** For no RACE: a RUNNER that some RACE may have. */
    boolean hasRunner(int race, int runner) {
        return runner >= 1 && runner <= (hasRace(race) ? RUNNERS[race] : 12);
    }

    boolean isOut(int race, int runner) {
        boolean sixth = race < 3 && runner == 6;
        boolean notFirst = race == 3 && runner > 1;
        return hasRace(race) && hasRunner(race, runner) && (sixth || notFirst || race == 4);
    }

    boolean hasPool(int pool) {
        if (pool == 48) {
            return hasDouble();
        }
        for (int p : POOLS) {
            if (p == pool && size > 0) {
                return true;
            }
        }
        return false;
    }

    boolean hasDouble() {
        return size > 1;
    }

    boolean hasTicket(int ticket) {
        return ticket >= 0 && ticket < tickets();
    }

    boolean isFullOfTickets() {
        return tickets() == 200;
    }

    boolean isLive(int ticket) {
        return hasTicket(ticket) && (ticket >= 10 || TICKET_STATES[ticket] == 0);
    }

    /** Of THE DOUBLE and of those that fill the day it is RACE 2. */
    int raceOfTicket(int ticket) {
        return ticket >= 10 ? 2 : TICKET_RACES[ticket];
    }

    boolean hasLap(int race, int k) {
        return race == 0 && k >= 0 && k < laps();
    }

    boolean isFullOfLaps(int race) {
        return race == 0 && laps() == 12;
    }

    static boolean isWindow(int window) {
        return window >= 0 && window < 6;
    }

    boolean isLost(int window) {
        return isWindow(window) && (size == 0 || (window != 0 && window != 2));
    }

    /** A SLIP that is none; without a DRAWER: of no DRAWER that there may be. */
    boolean isNoSlip(int window, int i) {
        boolean there = isWindow(window) && !isLost(window);
        return i < 0 || i >= (there ? window == 0 ? SLIPS.length : 0 : 12);
    }

    private int slip(int window, int i) {
        return window == 0 && size > 0 && i >= 0 && i < SLIPS.length ? SLIPS[i] : -2;
    }

    boolean holdsNothing(int window, int i) {
        return slip(window, i) == NOTHING;
    }

    /** Something that is neither NOTHING nor of kind() least to most. */
    boolean holdsElse(int window, int i, int least, int most) {
        int kind = slip(window, i);
        return kind >= 0 && (kind < least || kind > most);
    }

    /** A CHAR that is none; without a NOTE: of no NOTE that there may be. */
    boolean isNoChar(int window, int i, int k) {
        return k < 0 || k >= (slip(window, i) == NOTE ? 3 : 4);
    }

    boolean isNoCoin(int window, int i, int k) {
        return k < 0 || k >= (slip(window, i) == ROW ? i == 3 ? COINS.length : 0 : 8);
    }

    boolean isCoinZero(int window, int i, int k) {
        return slip(window, i) == ROW && !isNoCoin(window, i, k) && COINS[k] == 0;
    }

    static boolean isSatchel(int s) {
        return s >= 0 && s < 4;
    }

    boolean hasSatchel(int s) {
        return size > 0 && s >= 0 && s < 3;
    }

    boolean isNoPlace(int s, int place) {
        return place < 0 || place >= (hasSatchel(s) ? PLACES[s].length : 10);
    }

    boolean doesNotTakeSlip(int s, int window, int i) {
        return doesNotTake(s, slip(window, i));
    }

    boolean doesNotTakePlace(int t, int s, int place) {
        return hasSatchel(s) && hasSatchel(t) && !isNoPlace(s, place) && doesNotTake(t, PLACES[s][place]);
    }

    /** SATCHEL 1 is of FORM 1, the others of FORM 0; none takes a NOTE, a ROW. */
    private boolean doesNotTake(int s, int kind) {
        return kind == NOTE || kind == ROW || (s == 1 && hasSatchel(s) && kind > 1);
    }

    // ---- what is seen of it

    static final int FINDING = 0, CAME = 7, TRACE = 8, TRACED = 5;

    /** First what refusals may tell: finding(), count() of each FINDING, came(), THE TRACE. */
    static long[] seen(ToteHouse x) {
        Seen s = new Seen();
        s.add(x.finding());
        for (int f = 1; f <= 6; f++) {
            s.add(x.count(10 + f));
        }
        s.add(x.came());
        s.add(x.count(4));
        for (int k = 0; k < TRACED; k++) {
            s.add(x.trace(k));
        }
        seenMoney(x, s);
        seenCorners(x, s);
        return s.all();
    }

    private static void seenMoney(ToteHouse x, Seen s) {
        s.add(x.digest());
        s.add(x.rest());
        s.add(x.unclaimed());
        s.add(x.worstDue());
        for (int what : new int[] {0, 1, 2, 3, 5}) {
            s.add(x.count(what));
        }
        for (int race = 0; race < 9; race++) {
            s.add(x.raceAt(race, 2));
            s.add(x.raceAt(race, 3));
            s.add(x.pace(race, 4));
        }
        s.add(x.lapAt(0, 0));
        s.add(x.lapAt(0, 1));
        for (int ticket = 0; ticket < 11; ticket++) {
            for (int what : new int[] {0, 3, 6, 7}) {
                s.add(x.ticket(ticket, what));
            }
        }
        for (int pool : new int[] {8, 10, 11}) {
            s.add(x.odds(pool, 1, 2, 3));
        }
        for (int window = 0; window < 6; window++) {
            s.add(x.premium(window));
        }
    }

    private static void seenCorners(ToteHouse x, Seen s) {
        for (int i = 0; i <= SLIPS.length; i++) {
            s.add(x.kind(0, i));
        }
        for (int window = 1; window < 6; window++) {
            s.add(x.kind(window, 0));
        }
        for (int k = 0; k < 3; k++) {
            s.add(x.letter(0, 2, k));
            s.add(x.coinAt(0, 3, k));
        }
        for (int i : new int[] {0, 1, 6}) {
            s.add(x.read(0, i));
        }
        for (int satchel = 0; satchel < 4; satchel++) {
            for (int place = 0; place < 4; place++) {
                s.add(x.held(satchel, place));
            }
        }
        // What a SATCHEL takes tells its FORM; it is the last look, as it changes what is held.
        for (int satchel = 0; satchel < 4; satchel++) {
            s.add(x.gather(satchel, 0, 0, 1, 1));
            s.add(x.gather(satchel, 0, 0, 6, 1));
        }
    }

    private static final class Seen {
        private final long[] values = new long[400];
        private int count;

        void add(long value) {
            values[count] = value;
            count++;
        }

        long[] all() {
            return java.util.Arrays.copyOf(values, count);
        }
    }
}
