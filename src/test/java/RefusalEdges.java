import java.util.ArrayList;
import java.util.List;

/** Each refusal of each call alone, and each two of them at once. */
final class RefusalEdges {
    private static final int LEAST = Given.LEAST, MOST = Given.MOST;
    private static final String UNKNOWN = "UNKNOWN", OUTSIDE = "OUTSIDE", SAME = "SAME", GONE = "GONE", STATE = "STATE",
            FULL = "FULL", NULL = "NULL", INDEX = "INDEX", CAST = "CAST", STORE = "STORE", SIZE = "SIZE", ZERO = "ZERO";
    /** A second and a third of the same word in one promise. */
    private static final String STATE2 = "STATE2", STATE3 = "STATE3", NULL2 = "NULL2", INDEX2 = "INDEX2",
            INDEX3 = "INDEX3";
    private static final int[] RACES = {LEAST, -1, 0, 1, 2, 3, 4, 5, 6, 7, 8, 9, 12, 1 << 30, MOST};
    private static final int[] RUNNERS = {LEAST, -1, 0, 1, 2, 6, 7, 12, 13, MOST};
    private static final int[] WINDOWS = {LEAST, -1, 0, 1, 2, 5, 6, MOST};
    private static final int[] SLIPS = {LEAST, -1, 0, 1, 2, 3, 4, 5, 6, 7, 8, 12, MOST};
    private static final int[] PLACES = {LEAST, -1, 0, 1, 2, 3, 9, 10, MOST};
    private static final int[] SATCHELS = {LEAST, -1, 0, 1, 2, 3, 4, MOST};
    private static final int[] TICKETS = {LEAST, -1, 0, 1, 2, 3, 4, 5, 6, 7, 8, 9, 10, 11, 200, MOST};
    private static final List<Integer> TOLD = new ArrayList<>();

    private RefusalEdges() {
    }

    static void all() {
        Doc.holds(Doc.FINDINGS, "Refusals, of several the first as told by each call: UNKNOWN (there is no such"
                + " thing), OUTSIDE (a number is not as told), SAME, GONE, STATE, FULL, FINDINGS; they change nothing"
                + " but what is told.", RefusalEdges::areHeld);
    }

    private static void areHeld() {
        day();
        results();
        tickets();
        rows();
        looks();
        drawers();
        slips();
        coins();
        satchels();
        moves();
        lapsAndAsks();
        for (int promise = 1; promise <= 50; promise++) {
            boolean refuses = !Refusals.wordsOf(promise).isEmpty() && promise != 39;
            Check.holds(refuses == TOLD.contains(promise), "promise " + promise + " has refusals without a grid");
        }
    }

    private static Refusals of(int promise, String name) {
        TOLD.add(promise);
        return Refusals.of(promise, name);
    }

    private static Refusals byZero(int promise, String name) {
        TOLD.add(promise);
        return Refusals.byZero(promise, name);
    }

    private static boolean between(int least, int x, int most) {
        return least <= x && x <= most;
    }

    private static boolean areTerms(int deduction, int unit) {
        return between(0, deduction, 500) && between(10, unit, 1000) && unit % 10 == 0;
    }

    private static void day() {
        of(2, "race").on(GridDay.NEW, GridDay.DOUBLED, GridDay.FULL)
                .by(LEAST, -1, 0, 1, 2, 12, 13, MOST)
                .refuses(OUTSIDE, (d, a) -> !between(2, a[0], 12))
                .refuses(FULL, (d, a) -> d.isFullOfRaces())
                .run();
        of(3, "pool").by(RACES).by(LEAST, -1, 0, 1, 3, 4, MOST).by(-1, 0, 500, 501).by(0, 10, 15, 1000, 1010)
                .refuses(UNKNOWN, (d, a) -> !d.hasRace(a[0]))
                .refuses(OUTSIDE, (d, a) -> !between(0, a[1], 3) || !areTerms(a[2], a[3]))
                .refuses(SAME, (d, a) -> d.hasRace(a[0]) && between(0, a[1], 3) && d.hasPool(4 * a[0] + a[1]))
                .refuses(STATE, (d, a) -> d.isNotIn(a[0], 0))
                .never(UNKNOWN, SAME, STATE)
                .run();
        of(4, "twin").on(GridDay.SINGLE, GridDay.DOUBLED).by(-1, 0, 1, 2, 7, 9).by(-1, 0, 1, 2, 7, 9)
                .by(-1, 0, 500, 501).by(0, 10, 1000, 1010)
                .refuses(UNKNOWN, (d, a) -> !d.hasRace(a[0]) || !d.hasRace(a[1]))
                .refuses(OUTSIDE, (d, a) -> a[0] >= a[1] || !areTerms(a[2], a[3]))
                .refuses(SAME, (d, a) -> d.hasDouble())
                .refuses(STATE, (d, a) -> d.isNotIn(a[0], 0) || d.isNotIn(a[1], 0))
                .run();
        for (int promise = 5; promise <= 6; promise++) {
            of(promise, promise == 5 ? "substitute" : "scratch").by(RACES).by(RUNNERS)
                    .refuses(UNKNOWN, (d, a) -> !d.hasRace(a[0]))
                    .refuses(OUTSIDE, (d, a) -> !d.hasRunner(a[0], a[1]))
                    .refuses(GONE, (d, a) -> d.isOut(a[0], a[1]))
                    .refuses(STATE, (d, a) -> d.isNotIn(a[0], 0))
                    .never(UNKNOWN, GONE, STATE).never(OUTSIDE, GONE)
                    .run();
        }
    }

    private static void results() {
        of(7, "off").by(RACES)
                .refuses(UNKNOWN, (d, a) -> !d.hasRace(a[0]))
                .refuses(STATE, (d, a) -> d.isNotIn(a[0], 0))
                .never(UNKNOWN, STATE)
                .run();
        of(8, "place").by(RACES).by(RUNNERS).by(LEAST, -1, 0, 1, 12, 13, MOST)
                .refuses(UNKNOWN, (d, a) -> !d.hasRace(a[0]))
                .refuses(OUTSIDE, (d, a) -> !d.hasRunner(a[0], a[1]) || !between(0, a[2], 12))
                .refuses(GONE, (d, a) -> d.isOut(a[0], a[1]))
                .refuses(STATE, (d, a) -> d.isNotIn(a[0], 1))
                .never(UNKNOWN, GONE, STATE)
                .run();
        // RACE 1 has POSITIONS 1 and 3, RACE 6 1, 2 and 4, RACE 8 1, 2 and 3; RACE 4 has no RUNNER left.
        of(9, "official").by(RACES)
                .refuses(UNKNOWN, (d, a) -> !d.hasRace(a[0]))
                .refuses(STATE, (d, a) -> d.isNotIn(a[0], 1))
                .refuses(STATE2, (d, a) -> a[0] == 1 || a[0] == 6)
                .refuses(STATE3, (d, a) -> d.hasRace(a[0]) && a[0] != 0 && a[0] != 4 && a[0] != 6 && a[0] != 8)
                .never(UNKNOWN, STATE, STATE2, STATE3).never(STATE, STATE2)
                .run();
        of(10, "raceAt").by(RACES).by(LEAST, -1, 0, 4, 5, 10, 11, 16, 17, 22, 23, MOST)
                .refuses(UNKNOWN, (d, a) -> !d.hasRace(a[0]))
                .refuses(OUTSIDE, (d, a) -> !between(0, a[1], 4) && (a[1] < 11 || !d.hasRunner(a[0], a[1] - 10)))
                .run();
    }

    private static int kindOf(int pool) {
        return pool == 48 ? 4 : pool % 4;
    }

    /** The RACE that RUNNER a (0) or b, c (1) of a POOL is of. */
    private static int raceOf(int pool, int which) {
        return pool == 48 ? which == 0 ? 2 : 7 : pool / 4;
    }

    /** Whether a, b, c are OUTSIDE; for no POOL: whatever POOL it would be. */
    private static boolean isNoRow(GridDay d, int pool, int a, int b, int c) {
        if (!d.hasPool(pool)) {
            return !between(1, a, 12) || !between(0, b, 12) || !between(0, c, 12);
        }
        int kind = kindOf(pool);
        int second = raceOf(pool, 1);
        boolean bIsNone = kind < 2 ? b != 0 : !d.hasRunner(second, b);
        boolean cIsNone = kind != 3 ? c != 0 : !d.hasRunner(second, c);
        return !d.hasRunner(raceOf(pool, 0), a) || bIsNone || cIsNone;
    }

    private static boolean hasOneTwice(GridDay d, int pool, int a, int b, int c) {
        if (!d.hasPool(pool) || pool == 48 || kindOf(pool) < 2) {
            return false;
        }
        return a == b || (kindOf(pool) == 3 && (a == c || b == c));
    }

    private static boolean hasOneOut(GridDay d, int pool, int a, int b, int c) {
        return d.hasPool(pool)
                && (d.isOut(raceOf(pool, 0), a) || d.isOut(raceOf(pool, 1), b) || d.isOut(raceOf(pool, 1), c));
    }

    private static boolean isNotSelling(GridDay d, int pool) {
        return d.hasPool(pool) && (d.isNotIn(raceOf(pool, 0), 0) || d.isNotIn(raceOf(pool, 1), 0));
    }

    private static void tickets() {
        of(11, "sell").on(GridDay.DOUBLED, GridDay.FULL).by(-1, 0, 6).by(-1, 0, 4, 5, 6, 7, 8, 10, 11, 48, 49)
                .by(0, 1, 6, 7).by(0, 1, 2, 6).by(0, 1, 3, 6).by(0, 1, 1000, 1001)
                .refuses(UNKNOWN, (d, a) -> !GridDay.isWindow(a[0]) || !d.hasPool(a[1]))
                .refuses(OUTSIDE, (d, a) -> !between(1, a[5], 1000) || isNoRow(d, a[1], a[2], a[3], a[4]))
                .refuses(SAME, (d, a) -> hasOneTwice(d, a[1], a[2], a[3], a[4]))
                .refuses(GONE, (d, a) -> hasOneOut(d, a[1], a[2], a[3], a[4]))
                .refuses(STATE, (d, a) -> isNotSelling(d, a[1]))
                .refuses(FULL, (d, a) -> d.isFullOfTickets())
                .run();
        of(12, "cancel").by(TICKETS)
                .refuses(UNKNOWN, (d, a) -> !d.hasTicket(a[0]))
                .refuses(STATE, (d, a) -> d.hasTicket(a[0]) && !d.isLive(a[0]))
                .refuses(STATE2, (d, a) -> d.hasTicket(a[0]) && d.isNotIn(d.raceOfTicket(a[0]), 0))
                .never(UNKNOWN, STATE, STATE2)
                .run();
        of(13, "pay").by(TICKETS)
                .refuses(UNKNOWN, (d, a) -> !d.hasTicket(a[0]))
                .refuses(STATE, (d, a) -> d.hasTicket(a[0]) && !d.isLive(a[0]))
                .refuses(STATE2, (d, a) -> d.hasTicket(a[0]) && d.isNotIn(d.raceOfTicket(a[0]), 2))
                .never(UNKNOWN, STATE, STATE2)
                .run();
        of(14, "ticket").by(TICKETS).by(LEAST, -1, 0, 7, 8, MOST)
                .refuses(UNKNOWN, (d, a) -> !d.hasTicket(a[0]))
                .refuses(OUTSIDE, (d, a) -> !between(0, a[1], 7))
                .run();
    }

    private static void rows() {
        of(15, "units").by(-1, 0, 2, 3, 5, 10, 48, 49).by(RUNNERS).by(-1, 0, 1, 2, 6, 7, 13).by(-1, 0, 1, 3, 6, 7, 13)
                .refuses(UNKNOWN, (d, a) -> !d.hasPool(a[0]))
                .refuses(OUTSIDE, (d, a) -> isNoRow(d, a[0], a[1], a[2], a[3]))
                .refuses(SAME, (d, a) -> hasOneTwice(d, a[0], a[1], a[2], a[3]))
                .never(UNKNOWN, SAME)
                .run();
        of(16, "dividend").by(-1, 0, 2, 3, 5, 10, 11, 48, 49).by(RUNNERS).by(-1, 0, 1, 2, 6, 7, 13)
                .by(-1, 0, 1, 3, 6, 7, 13)
                .refuses(UNKNOWN, (d, a) -> !d.hasPool(a[0]))
                .refuses(OUTSIDE, (d, a) -> isNoRow(d, a[0], a[1], a[2], a[3]))
                .refuses(SAME, (d, a) -> hasOneTwice(d, a[0], a[1], a[2], a[3]))
                .refuses(STATE, (d, a) -> d.hasPool(a[0]) && a[0] > 3)
                .never(UNKNOWN, SAME, STATE)
                .run();
        // For THE DOUBLE and no POOL a, b, c are looked at as RUNNERS of whatever RACE.
        of(17, "odds").by(-1, 0, 3, 4, 5, 8, 11, 48, 49).by(RUNNERS).by(-1, 0, 1, 2, 6, 7, 13).by(-1, 0, 1, 3, 6, 7, 13)
                .refuses(UNKNOWN, (d, a) -> !d.hasPool(a[0]) || a[0] == 48)
                .refuses(OUTSIDE, (d, a) -> oddsOutside(d, oddsRace(d, a[0]), a[1], a[2], a[3]))
                .refuses(SAME, (d, a) -> a[1] == a[2] || a[1] == a[3] || a[2] == a[3])
                .refuses(GONE, (d, a) -> oddsGone(d, oddsRace(d, a[0]), a[1], a[2], a[3]))
                .refuses(STATE, (d, a) -> d.isIn(oddsRace(d, a[0]), 2))
                .never(UNKNOWN, GONE, STATE)
                .run();
    }

    private static int oddsRace(GridDay d, int pool) {
        return d.hasPool(pool) && pool != 48 ? pool / 4 : -1;
    }

    private static boolean oddsOutside(GridDay d, int race, int a, int b, int c) {
        return !d.hasRunner(race, a) || !d.hasRunner(race, b) || (c != 0 && !d.hasRunner(race, c));
    }

    private static boolean oddsGone(GridDay d, int race, int a, int b, int c) {
        return d.isOut(race, a) || d.isOut(race, b) || d.isOut(race, c);
    }

    private static void looks() {
        of(18, "book").by(LEAST, -1, 0, 5, 8, 47, 48, 49, MOST).by(LEAST, -1, 0, 10, 11, MOST)
                .refuses(UNKNOWN, (d, a) -> !d.hasPool(a[0]))
                .refuses(OUTSIDE, (d, a) -> !between(0, a[1], 10))
                .run();
        of(21, "worst").by(RACES)
                .refuses(UNKNOWN, (d, a) -> !d.hasRace(a[0]))
                .refuses(STATE, (d, a) -> d.isIn(a[0], 2))
                .refuses(GONE, (d, a) -> d.left(a[0]) < 2)
                .never(UNKNOWN, STATE, GONE)
                .run();
        of(23, "premium").on(GridDay.NEW, GridDay.DOUBLED).by(WINDOWS)
                .refuses(UNKNOWN, (d, a) -> !GridDay.isWindow(a[0]))
                .refuses(ZERO, (d, a) -> !d.hasTicket(0))
                .run();
    }

    private static void drawers() {
        of(24, "drawer").by(WINDOWS).by(LEAST, -1, 0, 12, 13, MOST)
                .refuses(UNKNOWN, (d, a) -> !GridDay.isWindow(a[0]))
                .refuses(OUTSIDE, (d, a) -> a[1] > 12)
                .refuses(SIZE, (d, a) -> a[1] < 0)
                .never(OUTSIDE, SIZE)
                .run();
        of(25, "lose").by(WINDOWS)
                .refuses(UNKNOWN, (d, a) -> !GridDay.isWindow(a[0]))
                .refuses(NULL, (d, a) -> d.isLost(a[0]))
                .never(UNKNOWN, NULL)
                .run();
        of(26, "keep").by(WINDOWS).by(SLIPS).by(TICKETS)
                .refuses(UNKNOWN, (d, a) -> !GridDay.isWindow(a[0]) || !d.hasTicket(a[2]))
                .refuses(NULL, (d, a) -> d.isLost(a[0]))
                .refuses(INDEX, (d, a) -> d.isNoSlip(a[0], a[1]))
                .run();
        of(27, "note").by(WINDOWS).by(SLIPS).by(LEAST, 65, MOST).by(LEAST, -1, 0, 1, 4, 5, MOST)
                .refuses(UNKNOWN, (d, a) -> !GridDay.isWindow(a[0]))
                .refuses(OUTSIDE, (d, a) -> !between(1, a[3], 4))
                .refuses(NULL, (d, a) -> d.isLost(a[0]))
                .refuses(INDEX, (d, a) -> d.isNoSlip(a[0], a[1]))
                .never(UNKNOWN, NULL)
                .run();
        of(28, "coins").by(WINDOWS).by(SLIPS).by(LEAST, -1, 0, 8, 9, MOST)
                .refuses(UNKNOWN, (d, a) -> !GridDay.isWindow(a[0]))
                .refuses(OUTSIDE, (d, a) -> a[2] > 8)
                .refuses(NULL, (d, a) -> d.isLost(a[0]))
                .refuses(INDEX, (d, a) -> d.isNoSlip(a[0], a[1]))
                .refuses(SIZE, (d, a) -> a[2] < 0)
                .never(UNKNOWN, NULL).never(OUTSIDE, SIZE)
                .run();
    }

    /** The refusals of the WINDOW, its DRAWER, the SLIP. */
    private static Refusals ofSlip(Refusals r) {
        return r.by(WINDOWS).by(SLIPS)
                .refuses(UNKNOWN, (d, a) -> !GridDay.isWindow(a[0]))
                .refuses(NULL, (d, a) -> d.isLost(a[0]))
                .refuses(INDEX, (d, a) -> d.isNoSlip(a[0], a[1]))
                .never(UNKNOWN, NULL);
    }

    /** Those, and of what the SLIP holds; without a SLIP it holds nothing and nothing else. */
    private static Refusals ofContent(Refusals r, int least, int most) {
        return ofSlip(r)
                .refuses(NULL2, (d, a) -> d.holdsNothing(a[0], a[1]))
                .refuses(CAST, (d, a) -> d.holdsElse(a[0], a[1], least, most))
                .never(UNKNOWN, NULL2, CAST).never(NULL, NULL2, CAST).never(INDEX, NULL2, CAST).never(NULL2, CAST);
    }

    private static void slips() {
        ofSlip(of(29, "clear")).run();
        ofSlip(of(30, "kind")).run();
        ofContent(of(31, "read"), 0, 4).run();
        ofContent(of(32, "letter"), 5, 5).by(LEAST, -1, 0, 2, 3, 4, MOST)
                .refuses(INDEX2, (d, a) -> d.isNoChar(a[0], a[1], a[2]))
                .run();
    }

    private static void coins() {
        int[] some = {LEAST, -1, 0, 2, 3, 8, MOST};
        ofContent(of(33, "coin"), 6, 6).by(some)
                .refuses(INDEX2, (d, a) -> d.isNoCoin(a[0], a[1], a[2]))
                .by(LEAST, 0, MOST)
                .run();
        ofContent(byZero(34, "coinAt"), 6, 6).by(some)
                .refuses(INDEX2, (d, a) -> d.isNoCoin(a[0], a[1], a[2]))
                .run();
        ofContent(byZero(35, "change"), 6, 6).by(some).by(some)
                .refuses(INDEX2, (d, a) -> d.isNoCoin(a[0], a[1], a[2]))
                .refuses(INDEX3, (d, a) -> d.isNoCoin(a[0], a[1], a[3]))
                .refuses(ZERO, (d, a) -> d.isCoinZero(a[0], a[1], a[3]))
                .never(UNKNOWN, ZERO).never(NULL, ZERO).never(INDEX, ZERO).never(NULL2, ZERO).never(CAST, ZERO)
                .never(INDEX3, ZERO)
                .run();
    }

    private static void satchels() {
        of(36, "satchel").by(SATCHELS).by(LEAST, -1, 0, 5, 6, MOST).by(LEAST, -1, 0, 10, 11, MOST)
                .refuses(UNKNOWN, (d, a) -> !GridDay.isSatchel(a[0]))
                .refuses(OUTSIDE, (d, a) -> !between(0, a[1], 5) || a[2] > 10)
                .refuses(SIZE, (d, a) -> a[2] < 0)
                .run();
        of(40, "held").by(SATCHELS).by(PLACES)
                .refuses(UNKNOWN, (d, a) -> !GridDay.isSatchel(a[0]))
                .refuses(NULL, (d, a) -> GridDay.isSatchel(a[0]) && !d.hasSatchel(a[0]))
                .refuses(INDEX, (d, a) -> d.isNoPlace(a[0], a[1]))
                .never(UNKNOWN, NULL)
                .run();
        of(41, "cash").by(SATCHELS)
                .refuses(UNKNOWN, (d, a) -> !GridDay.isSatchel(a[0]))
                .refuses(NULL, (d, a) -> GridDay.isSatchel(a[0]) && !d.hasSatchel(a[0]))
                .never(UNKNOWN, NULL)
                .run();
    }

    /** Of one at a time: what several do is told by SatchelEdges. */
    private static void moves() {
        of(37, "gather").by(-1, 0, 1, 2, 3, 4).by(LEAST, -1, 0, 2, 3, 10, MOST).by(-1, 0, 1, 2, 6)
                .by(-1, 0, 1, 2, 4, 5, 8, 12, MOST).by(-1, 0, 1, 13)
                .refuses(UNKNOWN, (d, a) -> !GridDay.isSatchel(a[0]) || !GridDay.isWindow(a[2]))
                .refuses(OUTSIDE, (d, a) -> !between(0, a[4], 12))
                .refuses(NULL, (d, a) -> a[4] != 0 && d.isLost(a[2]))
                .refuses(INDEX, (d, a) -> a[4] != 0 && d.isNoSlip(a[2], a[3]))
                .refuses(NULL2, (d, a) -> a[4] != 0 && GridDay.isSatchel(a[0]) && !d.hasSatchel(a[0]))
                .refuses(INDEX2, (d, a) -> a[4] != 0 && d.isNoPlace(a[0], a[1]))
                .refuses(STORE, (d, a) -> a[4] != 0 && d.doesNotTakeSlip(a[0], a[2], a[3]))
                .never(NULL, STORE).never(INDEX, STORE)
                .run();
        of(38, "shift").by(-1, 0, 1, 2, 3, 4).by(LEAST, -1, 0, 1, 2, 3, 10, MOST).by(-1, 0, 1, 2, 3, 4)
                .by(LEAST, -1, 0, 1, 2, 10, MOST).by(-1, 0, 1, 11)
                .refuses(UNKNOWN, (d, a) -> !GridDay.isSatchel(a[0]) || !GridDay.isSatchel(a[2]))
                .refuses(OUTSIDE, (d, a) -> !between(0, a[4], 10))
                .refuses(NULL, (d, a) -> isNone(d, a[0]) || isNone(d, a[2]))
                .refuses(INDEX, (d, a) -> a[4] != 0 && d.isNoPlace(a[0], a[1]))
                .refuses(INDEX2, (d, a) -> a[4] != 0 && d.isNoPlace(a[2], a[3]))
                .refuses(STORE, (d, a) -> a[4] != 0 && d.doesNotTakePlace(a[2], a[0], a[1]))
                .never(UNKNOWN, STORE).never(NULL, STORE).never(INDEX, STORE)
                .run();
    }

    private static boolean isNone(GridDay d, int s) {
        return GridDay.isSatchel(s) && !d.hasSatchel(s);
    }

    private static void lapsAndAsks() {
        of(42, "lap").on(GridDay.DOUBLED, GridDay.FULL).by(RACES).by(LEAST, 0, MOST)
                .refuses(UNKNOWN, (d, a) -> !d.hasRace(a[0]))
                .refuses(FULL, (d, a) -> d.isFullOfLaps(a[0]))
                .never(UNKNOWN, FULL)
                .run();
        byZero(43, "lapAt").by(RACES).by(LEAST, -1, 0, 1, 2, 12, MOST)
                .refuses(UNKNOWN, (d, a) -> !d.hasRace(a[0]))
                .refuses(INDEX, (d, a) -> isNoLap(d, a[0], a[1]))
                .run();
        byZero(44, "pace").by(RACES).by(LEAST, -1, 0, 4, 5, MOST)
                .refuses(UNKNOWN, (d, a) -> !d.hasRace(a[0]))
                .refuses(OUTSIDE, (d, a) -> !between(0, a[1], 4))
                .run();
        byZero(45, "remainder").by(RACES).by(LEAST, -1, 0, 1, 2, 12, MOST).by(0, 0x3F800000, 0x7FC00000)
                .refuses(UNKNOWN, (d, a) -> !d.hasRace(a[0]))
                .refuses(INDEX, (d, a) -> isNoLap(d, a[0], a[1]))
                .run();
        of(46, "ask").by(TICKETS).by(LEAST, -1, 0, 1, 2, MOST)
                .refuses(UNKNOWN, (d, a) -> !d.hasTicket(a[0]))
                .refuses(OUTSIDE, (d, a) -> !between(0, a[1], 1))
                .run();
        of(49, "count").by(LEAST, -1, 0, 5, 6, 10, 11, 16, 17, MOST)
                .refuses(OUTSIDE, (d, a) -> !between(0, a[0], 5) && !between(11, a[0], 16))
                .run();
    }

    /** A LAP that is none; without a RACE: of no RACE that there may be. */
    private static boolean isNoLap(GridDay d, int race, int k) {
        return d.hasRace(race) ? !d.hasLap(race, k) : !between(0, k, 11);
    }
}
