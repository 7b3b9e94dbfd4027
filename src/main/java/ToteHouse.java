/** A tote for a day of races. The words in the comments are those of ../shared/DOC.md. */
public final class ToteHouse {
    public static final int NONE = -1, UNKNOWN = -2, OUTSIDE = -3, SAME = -4, GONE = -5, STATE = -6, FULL = -7;

    private static final int MOST_RACES = 12, MOST_RUNNERS = 12, MOST_POSITION = 12, MOST_LAPS = 12;
    private static final int MOST_TICKETS = 200, MOST_UNITS = 1000, MOST_DEDUCTION = 500;
    private static final int LEAST_UNIT = 10, MOST_UNIT = 1000;
    private static final int WINDOWS = 6, MOST_SLIPS = 12, MOST_CHARS = 4, MOST_COINS = 8;
    private static final int SATCHELS = 4, FORMS = 6, MOST_PLACES = 10, MOST_TRACE = 100;

    private static final int WIN = 0, PLACE = 1, PAIR = 2, ORDER = 3, DOUBLE = 4, NOTE = 5, ROW = 6;
    private static final int KINDS_OF_RACE = 4, THE_DOUBLE = 48, POOL_NUMBERS = 49;
    private static final int SELLING = 0, OFF = 1, OFFICIAL = 2;
    private static final int LIVE = 0, CANCELLED = 1, REFUNDED = 2, PAID = 3;
    private static final int OUT = -1;

    private static final int SOLD = 0, TAKEN_BACK = 1, HANDED_BACK = 2, DEDUCTED = 3, CARRIED_IN = 4,
            CARRIED_OUT = 5, BREAKAGE = 6, COST = 7, DUE = 8, PAID_OUT = 9, SETTLED = 10, FIGURES = 11;

    private static final int NULL = 1, INDEX = 2, CAST = 3, STORE = 4, SIZE = 5, ZERO = 6;

    private static final int NO_NUMBER = 0x7FC00000;
    private static final int STEP = 13, SLOTS = 2197;

    private final Race[] races = new Race[MOST_RACES];
    private int raceCount;
    private final Pool[] pools = new Pool[POOL_NUMBERS];
    private int poolCount;
    private final Ticket[] tickets = new Ticket[MOST_TICKETS];
    private int ticketCount;
    private int carriedToRest;
    private int greatestDue;

    private final Drawer[] drawers = new Drawer[WINDOWS];
    private final Satchel[] satchels = new Satchel[SATCHELS];
    private final Ticket[] moving = new Ticket[MOST_PLACES];
    private int moved;

    private final int[] traced = new int[MOST_TRACE];
    private int traceLength;
    private final int[] findings = new int[ZERO + 1];
    private int latestFinding;

    // UNITS by slotOf(): all 0 between calls, so that no call needs a row of its own.
    private final int[] tally = new int[SLOTS];
    private final Share[] shares = new Share[DOUBLE + 1];

    public ToteHouse() {
        for (int kind = WIN; kind <= DOUBLE; kind++) {
            shares[kind] = new Share(kind);
        }
    }

    // ---- the day

    public int race(int n) {
        if (n < 2 || n > MOST_RUNNERS) {
            return OUTSIDE;
        }
        if (raceCount >= MOST_RACES) {
            return FULL;
        }
        races[raceCount] = new Race(n);
        raceCount++;
        return raceCount - 1;
    }

    public int pool(int race, int kind, int deduction, int unit) {
        Race r = raceOf(race);
        if (r == null) {
            return UNKNOWN;
        }
        if (kind < WIN || kind > ORDER || !areTerms(deduction, unit)) {
            return OUTSIDE;
        }
        int number = KINDS_OF_RACE * race + kind;
        if (pools[number] != null) {
            return SAME;
        }
        if (r.state != SELLING) {
            return STATE;
        }
        return open(new Pool(number, kind, r, r, deduction, unit));
    }

    public int twin(int first, int second, int deduction, int unit) {
        Race one = raceOf(first);
        Race other = raceOf(second);
        if (one == null || other == null) {
            return UNKNOWN;
        }
        if (first >= second || !areTerms(deduction, unit)) {
            return OUTSIDE;
        }
        if (pools[THE_DOUBLE] != null) {
            return SAME;
        }
        if (one.state != SELLING || other.state != SELLING) {
            return STATE;
        }
        return open(new Pool(THE_DOUBLE, DOUBLE, one, other, deduction, unit));
    }

    public int substitute(int race, int runner) {
        Race r = raceOf(race);
        if (r == null) {
            return UNKNOWN;
        }
        int refusal = r.runnerRefusal(runner, SELLING);
        if (refusal != 0) {
            return refusal;
        }
        int before = r.substitute;
        r.substitute = runner;
        return before;
    }

    public int scratch(int race, int runner) {
        Race r = raceOf(race);
        if (r == null) {
            return UNKNOWN;
        }
        int refusal = r.runnerRefusal(runner, SELLING);
        if (refusal != 0) {
            return refusal;
        }
        r.takeOut(runner);
        int met = 0;
        for (int i = 0; i < ticketCount; i++) {
            if (tickets[i].state == LIVE && tickets[i].isFor(r, runner)) {
                loseRunner(tickets[i], r, runner);
                met++;
            }
        }
        return met;
    }

    public int off(int race) {
        Race r = raceOf(race);
        if (r == null) {
            return UNKNOWN;
        }
        if (r.state != SELLING) {
            return STATE;
        }
        r.state = OFF;
        return r.running;
    }

    public int place(int race, int runner, int position) {
        Race r = raceOf(race);
        if (r == null) {
            return UNKNOWN;
        }
        if (position < 0 || position > MOST_POSITION) {
            return OUTSIDE;
        }
        int refusal = r.runnerRefusal(runner, OFF);
        if (refusal != 0) {
            return refusal;
        }
        int before = r.positions[runner];
        r.positions[runner] = position;
        return before;
    }

    public int official(int race) {
        Race r = raceOf(race);
        if (r == null) {
            return UNKNOWN;
        }
        if (r.state != OFF || !r.isRight() || r.placed() < Math.min(3, r.running)) {
            return STATE;
        }
        r.state = OFFICIAL;
        int settled = 0;
        for (int kind = WIN; kind <= ORDER; kind++) {
            settled += settleIfDue(pools[KINDS_OF_RACE * race + kind]);
        }
        return settled + settleIfDue(pools[THE_DOUBLE]);
    }

    public int raceAt(int race, int what) {
        Race r = raceOf(race);
        if (r == null) {
            return UNKNOWN;
        }
        if (what > 10 && what <= 10 + r.runners) {
            return r.positions[what - 10];
        }
        switch (what) {
            case 0: return r.state;
            case 1: return r.runners;
            case 2: return r.running;
            case 3: return r.substitute;
            case 4: return carriedIn(race);
            default: return OUTSIDE;
        }
    }

    // ---- tickets

    public int sell(int window, int pool, int a, int b, int c, int units) {
        Pool p = poolOf(pool);
        if (!isWindow(window) || p == null) {
            return UNKNOWN;
        }
        if (units < 1 || units > MOST_UNITS) {
            return OUTSIDE;
        }
        int refusal = p.rowRefusal(a, b, c);
        if (refusal != 0) {
            return refusal;
        }
        if (p.first.isOut(a) || p.second.isOut(b) || p.second.isOut(c)) {
            return GONE;
        }
        if (p.first.state != SELLING || p.second.state != SELLING) {
            return STATE;
        }
        if (ticketCount >= MOST_TICKETS) {
            return FULL;
        }
        Ticket t = new Ticket(ticketCount, p, window, units);
        t.setRow(a, b, c);
        tickets[ticketCount] = t;
        ticketCount++;
        p.book[SOLD] += t.stake();
        return t.number;
    }

    public int cancel(int ticket) {
        Ticket t = ticketOf(ticket);
        if (t == null) {
            return UNKNOWN;
        }
        if (t.state != LIVE || t.pool.first.state != SELLING) {
            return STATE;
        }
        t.state = CANCELLED;
        t.pool.book[TAKEN_BACK] += t.stake();
        return t.stake();
    }

    public int pay(int ticket) {
        Ticket t = ticketOf(ticket);
        if (t == null) {
            return UNKNOWN;
        }
        return t.isPayable() ? t.handOver() : STATE;
    }

    public int ticket(int ticket, int what) {
        Ticket t = ticketOf(ticket);
        if (t == null) {
            return UNKNOWN;
        }
        switch (what) {
            case 0: return t.pool.number;
            case 1: return t.a;
            case 2: return t.b;
            case 3: return t.c;
            case 4: return t.size;
            case 5: return t.state;
            case 6: return t.window;
            case 7: return t.due();
            default: return OUTSIDE;
        }
    }

    public int units(int pool, int a, int b, int c) {
        Pool p = poolOf(pool);
        if (p == null) {
            return UNKNOWN;
        }
        int refusal = p.rowRefusal(a, b, c);
        if (refusal != 0) {
            return refusal;
        }
        int slot = slotOf(p.kind, a, b, c);
        int sum = 0;
        for (int i = 0; i < ticketCount; i++) {
            Ticket t = tickets[i];
            if (t.pool == p && t.state == LIVE && t.slot() == slot) {
                sum += t.size;
            }
        }
        return sum;
    }

    public int dividend(int pool, int a, int b, int c) {
        Pool p = poolOf(pool);
        if (p == null) {
            return UNKNOWN;
        }
        int refusal = p.rowRefusal(a, b, c);
        if (refusal != 0) {
            return refusal;
        }
        if (!p.isSettled()) {
            return STATE;
        }
        int slot = slotOf(p.kind, a, b, c);
        for (int i = 0; i < ticketCount; i++) {
            Ticket t = tickets[i];
            // All TICKETS that were LIVE for one ROW have the same DIVIDEND; the others have 0.
            if (t.pool == p && t.dividend > 0 && t.slot() == slot) {
                return t.dividend;
            }
        }
        return 0;
    }

    public int odds(int pool, int a, int b, int c) {
        Pool p = poolOf(pool);
        if (p == null || p.kind == DOUBLE) {
            return UNKNOWN;
        }
        Race r = p.first;
        if (!r.has(a) || !r.has(b) || (c != 0 && !r.has(c))) {
            return OUTSIDE;
        }
        if (a == b || a == c || b == c) {
            return SAME;
        }
        if (r.isOut(a) || r.isOut(b) || r.isOut(c)) {
            return GONE;
        }
        if (r.state == OFFICIAL) {
            return STATE;
        }
        tallyRace(r);
        int answer = dividendIf(p.kind, a, b, c);
        clearTally();
        return answer;
    }

    public int book(int pool, int what) {
        Pool p = poolOf(pool);
        if (p == null) {
            return UNKNOWN;
        }
        return what < 0 || what >= FIGURES ? OUTSIDE : p.book[what];
    }

    public int rest() {
        return carriedToRest;
    }

    public int unclaimed() {
        int sum = 0;
        for (int i = 0; i < ticketCount; i++) {
            if (tickets[i].state == LIVE) {
                sum += tickets[i].due();
            }
        }
        return sum;
    }

    public int worst(int race) {
        Race r = raceOf(race);
        if (r == null) {
            return UNKNOWN;
        }
        if (r.state == OFFICIAL) {
            return STATE;
        }
        if (r.running < 2) {
            return GONE;
        }
        tallyRace(r);
        int row = worstRow(r);
        clearTally();
        return row;
    }

    public int worstDue() {
        return greatestDue;
    }

    public int premium(int window) {
        if (!isWindow(window)) {
            return UNKNOWN;
        }
        long here = 0;
        long everywhere = 0;
        for (int i = 0; i < ticketCount; i++) {
            everywhere += tickets[i].size;
            if (tickets[i].window == window) {
                here += tickets[i].size;
            }
        }
        if (everywhere == 0) {
            return found(ZERO);
        }
        return (int) (allDeducted() * here / everywhere);
    }

    // ---- drawers

    public int drawer(int window, int n) {
        if (!isWindow(window)) {
            return UNKNOWN;
        }
        if (n > MOST_SLIPS) {
            return OUTSIDE;
        }
        if (n < 0) {
            return found(SIZE);
        }
        drawers[window] = new Drawer(n);
        return n;
    }

    public int lose(int window) {
        if (!isWindow(window)) {
            return UNKNOWN;
        }
        Drawer d = drawers[window];
        if (d == null) {
            return found(NULL);
        }
        drawers[window] = null;
        return d.slips.length;
    }

    public int keep(int window, int i, int ticket) {
        Ticket t = ticketOf(ticket);
        if (t == null) {
            return UNKNOWN;
        }
        int trouble = slipTrouble(window, i);
        if (trouble != 0) {
            return refuse(trouble);
        }
        drawers[window].slips[i] = t;
        return 1;
    }

    public int note(int window, int i, long letters, int n) {
        if (isWindow(window) && (n < 1 || n > MOST_CHARS)) {
            return OUTSIDE;
        }
        int trouble = slipTrouble(window, i);
        if (trouble != 0) {
            return refuse(trouble);
        }
        drawers[window].slips[i] = new Note(letters, n);
        return n;
    }

    public int coins(int window, int i, int n) {
        if (isWindow(window) && n > MOST_COINS) {
            return OUTSIDE;
        }
        int trouble = slipTrouble(window, i);
        if (trouble != 0) {
            return refuse(trouble);
        }
        if (n < 0) {
            return found(SIZE);
        }
        drawers[window].slips[i] = new CoinRow(n);
        return n;
    }

    public int clear(int window, int i) {
        int trouble = slipTrouble(window, i);
        if (trouble != 0) {
            return refuse(trouble);
        }
        int before = kindOf(drawers[window].slips[i]);
        drawers[window].slips[i] = null;
        return before;
    }

    public int kind(int window, int i) {
        int trouble = slipTrouble(window, i);
        if (trouble != 0) {
            return refuse(trouble);
        }
        return kindOf(drawers[window].slips[i]);
    }

    public int read(int window, int i) {
        int trouble = slipTrouble(window, i);
        if (trouble != 0) {
            return refuse(trouble);
        }
        Paper paper = drawers[window].slips[i];
        if (paper instanceof Ticket t) {
            return t.number;
        }
        return found(paper == null ? NULL : CAST);
    }

    public int letter(int window, int i, int k) {
        int trouble = slipTrouble(window, i);
        if (trouble != 0) {
            return refuse(trouble);
        }
        Paper paper = drawers[window].slips[i];
        if (paper instanceof Note n) {
            return k < 0 || k >= n.length ? found(INDEX) : n.charOf(k);
        }
        return found(paper == null ? NULL : CAST);
    }

    public int coin(int window, int i, int k, int v) {
        int trouble = coinTrouble(window, i, k);
        if (trouble != 0) {
            return refuse(trouble);
        }
        if (drawers[window].slips[i] instanceof CoinRow row) {
            row.values[k] = v;
        }
        return 1;
    }

    public int coinAt(int window, int i, int k) {
        int trouble = coinTrouble(window, i, k);
        if (trouble != 0) {
            return refuseByZero(trouble);
        }
        return valueAt(window, i, k);
    }

    public int change(int window, int i, int k, int l) {
        int trouble = coinTrouble(window, i, k);
        if (trouble == 0) {
            trouble = coinTrouble(window, i, l);
        }
        if (trouble != 0) {
            return refuseByZero(trouble);
        }
        int divisor = valueAt(window, i, l);
        if (divisor == 0) {
            return refuseByZero(ZERO);
        }
        return valueAt(window, i, k) / divisor;
    }

    // ---- satchels

    public int satchel(int s, int form, int n) {
        if (!isSatchel(s)) {
            return UNKNOWN;
        }
        if (form < 0 || form >= FORMS || n > MOST_PLACES) {
            return OUTSIDE;
        }
        if (n < 0) {
            return found(SIZE);
        }
        satchels[s] = new Satchel(form, n);
        return n;
    }

    public int gather(int s, int at, int window, int i, int n) {
        if (!isSatchel(s) || !isWindow(window)) {
            return UNKNOWN;
        }
        if (n < 0 || n > MOST_SLIPS) {
            return OUTSIDE;
        }
        moved = 0;
        for (int k = 0; k < n; k++) {
            int trouble = slipTrouble(window, i + k);
            if (trouble == 0) {
                trouble = put(satchels[s], at + k, drawers[window].slips[i + k]);
            }
            if (trouble != 0) {
                return refuse(trouble);
            }
            moved++;
        }
        return n;
    }

    public int shift(int s, int i, int t, int j, int n) {
        if (!isSatchel(s) || !isSatchel(t)) {
            return UNKNOWN;
        }
        if (n < 0 || n > MOST_PLACES) {
            return OUTSIDE;
        }
        moved = 0;
        Satchel from = satchels[s];
        Satchel to = satchels[t];
        if (from == null || to == null) {
            return found(NULL);
        }
        // What is shifted is what the places had before the first one came, also within one SATCHEL.
        for (int k = 0; k < from.places.length; k++) {
            moving[k] = from.places[k];
        }
        for (int k = 0; k < n; k++) {
            int trouble = from.has(i + k) ? put(to, j + k, moving[i + k]) : INDEX;
            if (trouble != 0) {
                return refuse(trouble);
            }
            moved++;
        }
        return n;
    }

    public int came() {
        return moved;
    }

    public int held(int s, int place) {
        if (!isSatchel(s)) {
            return UNKNOWN;
        }
        Satchel from = satchels[s];
        if (from == null) {
            return found(NULL);
        }
        if (!from.has(place)) {
            return found(INDEX);
        }
        Ticket t = from.places[place];
        return t == null ? NONE : t.number;
    }

    public int cash(int s) {
        if (!isSatchel(s)) {
            return UNKNOWN;
        }
        Satchel from = satchels[s];
        if (from == null) {
            return found(NULL);
        }
        int sum = 0;
        for (Ticket t : from.places) {
            if (t != null && t.isPayable()) {
                sum += t.handOver();
            }
        }
        return sum;
    }

    // ---- laps

    public int lap(int race, int bits) {
        Race r = raceOf(race);
        if (r == null) {
            return UNKNOWN;
        }
        if (r.lapCount >= MOST_LAPS) {
            return FULL;
        }
        r.laps[r.lapCount] = FloatBits.isNone(bits) ? NO_NUMBER : bits;
        r.lapCount++;
        return r.lapCount;
    }

    public int lapAt(int race, int k) {
        int trouble = lapTrouble(race, k);
        return trouble != 0 ? refuseByZero(trouble) : races[race].laps[k];
    }

    public int pace(int race, int what) {
        Race r = raceOf(race);
        if (r == null || what < 0 || what > 4) {
            return 0;
        }
        int numbers = r.numberCount();
        if (what == 4) {
            return numbers;
        }
        if (numbers == 0) {
            return NO_NUMBER;
        }
        if (what >= 2) {
            return r.extremeLap(what == 3);
        }
        float sum = r.lapSum();
        // The quotient of a sum below 0 may be -0.0, whose sign no comparison tells.
        return FloatBits.bitsOf(what == 0 ? sum : sum / (float) numbers, sum < 0f);
    }

    public int remainder(int race, int k, int step) {
        int trouble = lapTrouble(race, k);
        if (trouble != 0) {
            return refuseByZero(trouble);
        }
        return FloatBits.modulo(races[race].laps[k], step);
    }

    // ---- asks

    public int ask(int ticket, int what) {
        traceLength = 0;
        Ticket t = ticketOf(ticket);
        if (t == null) {
            return UNKNOWN;
        }
        if (what < 0 || what > 1) {
            return OUTSIDE;
        }
        return what == 0 ? weightOf(t) : pointsOf(t);
    }

    public int trace(int k) {
        return k < 0 || k >= traceLength ? NONE : traced[k];
    }

    public int finding() {
        return latestFinding;
    }

    public int count(int what) {
        if (what > 10 && what <= 10 + ZERO) {
            return findings[what - 10];
        }
        switch (what) {
            case 0: return raceCount;
            case 1: return poolCount;
            case 2: return ticketCount;
            case 3: return liveCount();
            case 4: return traceLength;
            case 5: return (int) allDeducted();
            default: return OUTSIDE;
        }
    }

    public long digest() {
        long h = 17L;
        for (int i = 0; i < raceCount; i++) {
            h = 31L * h + races[i].state;
            for (int runner = 1; runner <= races[i].runners; runner++) {
                h = 31L * h + races[i].positions[runner];
            }
            h = 31L * h + carriedIn(i);
        }
        for (int i = 0; i < POOL_NUMBERS; i++) {
            h = pools[i] == null ? h : pools[i].digestFrom(h);
        }
        for (int i = 0; i < ticketCount; i++) {
            h = tickets[i].digestFrom(h);
        }
        return 31L * h + carriedToRest;
    }

    // ---- what there is

    private Race raceOf(int number) {
        return number < 0 || number >= raceCount ? null : races[number];
    }

    private Pool poolOf(int number) {
        return number < 0 || number >= POOL_NUMBERS ? null : pools[number];
    }

    private Ticket ticketOf(int number) {
        return number < 0 || number >= ticketCount ? null : tickets[number];
    }

    private static boolean isWindow(int number) {
        return number >= 0 && number < WINDOWS;
    }

    private static boolean isSatchel(int number) {
        return number >= 0 && number < SATCHELS;
    }

    private static boolean areTerms(int deduction, int unit) {
        return deduction >= 0 && deduction <= MOST_DEDUCTION
                && unit >= LEAST_UNIT && unit <= MOST_UNIT && unit % 10 == 0;
    }

    private int open(Pool p) {
        pools[p.number] = p;
        poolCount++;
        return p.number;
    }

    private int carriedIn(int race) {
        Pool p = poolOf(KINDS_OF_RACE * race + ORDER);
        return p == null ? 0 : p.book[CARRIED_IN];
    }

    private int liveCount() {
        int live = 0;
        for (int i = 0; i < ticketCount; i++) {
            if (tickets[i].state == LIVE) {
                live++;
            }
        }
        return live;
    }

    private long allDeducted() {
        long sum = 0;
        for (int i = 0; i < POOL_NUMBERS; i++) {
            if (pools[i] != null) {
                sum += pools[i].book[DEDUCTED];
            }
        }
        return sum;
    }

    private static void loseRunner(Ticket t, Race r, int runner) {
        boolean replaced = t.pool.kind == DOUBLE && r.has(r.substitute) && !r.isOut(r.substitute);
        if (replaced) {
            t.exchange(r, runner, r.substitute);
        } else {
            t.refund();
        }
    }

    // ---- money

    /** Each KIND has a part of the tally of its own; a ROW of ORDER without a third has a slot that stays empty. */
    private static int slotOf(int kind, int a, int b, int c) {
        switch (kind) {
            case WIN: return STEP * STEP * a;
            case PLACE: return STEP * a;
            case PAIR: return STEP * Math.min(a, b) + Math.max(a, b);
            case ORDER: return STEP * STEP * a + STEP * b + c;
            default: return STEP * STEP * a + b;
        }
    }

    private int settleIfDue(Pool p) {
        if (p == null || p.isSettled() || p.first.state != OFFICIAL || p.second.state != OFFICIAL) {
            return 0;
        }
        settle(p);
        return 1;
    }

    private void settle(Pool p) {
        p.book[SETTLED] = 1;
        Share share = shares[p.kind];
        share.begin(p);
        tallyWinners(p, share);
        if (p.isVoid() || (share.takers == 0 && p.kind != ORDER)) {
            refundLive(p);
            p.book[CARRIED_OUT] = p.book[CARRIED_IN];
        } else if (share.takers == 0) {
            p.book[DEDUCTED] = share.deducted;
            p.book[CARRIED_OUT] = share.net;
        } else {
            shareOut(p, share);
        }
        clearTally();
        if (p.kind == ORDER) {
            carryOn(p);
        }
    }

    private void tallyWinners(Pool p, Share share) {
        for (int i = 0; i < ticketCount; i++) {
            Ticket t = tickets[i];
            if (t.pool == p && t.state == LIVE && t.wins()) {
                int slot = t.slot();
                if (tally[slot] == 0) {
                    share.takers++;
                }
                tally[slot] += t.size;
                share.takerUnits += t.size;
            }
        }
    }

    private void refundLive(Pool p) {
        for (int i = 0; i < ticketCount; i++) {
            if (tickets[i].pool == p && tickets[i].state == LIVE) {
                tickets[i].refund();
            }
        }
    }

    private void shareOut(Pool p, Share share) {
        for (int i = 0; i < ticketCount; i++) {
            Ticket t = tickets[i];
            if (t.pool == p && t.state == LIVE) {
                t.dividend = share.dividendFor(tally[t.slot()]);
                p.book[DUE] += t.due();
            }
        }
        p.book[DEDUCTED] = share.deducted;
        p.book[COST] = share.missing();
        p.book[BREAKAGE] = share.net + p.book[COST] - p.book[DUE];
    }

    private void carryOn(Pool p) {
        // From one ORDER to the next RACE's it is as many numbers as a RACE has KINDS.
        for (int number = p.number + KINDS_OF_RACE; number < THE_DOUBLE; number += KINDS_OF_RACE) {
            Pool next = pools[number];
            if (next != null && next.first.state != OFFICIAL) {
                next.book[CARRIED_IN] += p.book[CARRIED_OUT];
                return;
            }
        }
        carriedToRest += p.book[CARRIED_OUT];
    }

    /** LIVE UNITS of the RACE's POOLS; those of a VOID one are left away, as nothing WINS there. */
    private void tallyRace(Race r) {
        for (int i = 0; i < POOL_NUMBERS; i++) {
            Pool p = pools[i];
            if (p != null && p.first == r && p.kind != DOUBLE) {
                shares[p.kind].begin(p);
            }
        }
        for (int i = 0; i < ticketCount; i++) {
            Ticket t = tickets[i];
            if (t.state == LIVE && t.pool.first == r && t.pool.kind != DOUBLE && !t.pool.isVoid()) {
                tally[t.slot()] += t.size;
            }
        }
    }

    private void clearTally() {
        for (int i = 0; i < ticketCount; i++) {
            tally[tickets[i].slot()] = 0;
        }
    }

    private int dividendIf(int kind, int a, int b, int c) {
        Share share = shares[kind];
        int size = tally[slotOf(kind, a, b, c)];
        share.countOne(size);
        if (kind == PLACE) {
            share.countAlso(unitsToPlace(b));
            share.countAlso(unitsToPlaceThird(c));
        }
        return share.dividendFor(size);
    }

    private int unitsToPlace(int runner) {
        return tally[slotOf(PLACE, runner, 0, 0)];
    }

    private int unitsToPlaceThird(int runner) {
        return shares[PLACE].places < 3 ? 0 : unitsToPlace(runner);
    }

    private int dueIf(int kind, int a, int b, int c) {
        int size = tally[slotOf(kind, a, b, c)];
        if (size == 0) {
            return 0;
        }
        shares[kind].countOne(size);
        return size * shares[kind].dividendFor(size);
    }

    private int placeDueIf(int a, int b, int c) {
        int first = unitsToPlace(a);
        int second = unitsToPlace(b);
        int third = unitsToPlaceThird(c);
        if (first + second + third == 0) {
            return 0;
        }
        Share share = shares[PLACE];
        share.countOne(first);
        share.countAlso(second);
        share.countAlso(third);
        return first * share.dividendFor(first) + second * share.dividendFor(second)
                + third * share.dividendFor(third);
    }

    private int worstRow(Race r) {
        int row = 0;
        greatestDue = -1;
        for (int a = 1; a <= r.runners; a++) {
            if (r.isOut(a)) {
                continue;
            }
            int byFirst = dueIf(WIN, a, 0, 0);
            for (int b = 1; b <= r.runners; b++) {
                if (b != a && !r.isOut(b)) {
                    row = worstThird(r, a, b, byFirst + dueIf(PAIR, a, b, 0), row);
                }
            }
        }
        return row;
    }

    private int worstThird(Race r, int a, int b, int byTwo, int rowBefore) {
        int row = rowBefore;
        // With two RUNNERS alone the ROW has no third: 0 is the only one that is tried.
        int start = r.running == 2 ? 0 : 1;
        int end = r.running == 2 ? 0 : r.runners;
        for (int c = start; c <= end; c++) {
            if (c == a || c == b || r.isOut(c)) {
                continue;
            }
            int due = byTwo + placeDueIf(a, b, c) + dueIf(ORDER, a, b, c);
            if (due > greatestDue) {
                greatestDue = due;
                row = 10000 * a + 100 * b + c;
            }
        }
        return row;
    }

    // ---- findings: a trouble is 0 (none), UNKNOWN, or the number of a FINDING

    private int found(int number) {
        latestFinding = number;
        findings[number]++;
        return -10 - number;
    }

    private int refuse(int trouble) {
        return trouble > 0 ? found(trouble) : trouble;
    }

    private int refuseByZero(int trouble) {
        refuse(trouble);
        return 0;
    }

    private int slipTrouble(int window, int i) {
        if (!isWindow(window)) {
            return UNKNOWN;
        }
        Drawer d = drawers[window];
        if (d == null) {
            return NULL;
        }
        return i < 0 || i >= d.slips.length ? INDEX : 0;
    }

    private int coinTrouble(int window, int i, int k) {
        int trouble = slipTrouble(window, i);
        if (trouble != 0) {
            return trouble;
        }
        Paper paper = drawers[window].slips[i];
        if (paper instanceof CoinRow row) {
            return k < 0 || k >= row.values.length ? INDEX : 0;
        }
        return paper == null ? NULL : CAST;
    }

    private int valueAt(int window, int i, int k) {
        return drawers[window].slips[i] instanceof CoinRow row ? row.values[k] : 0;
    }

    private static int kindOf(Paper paper) {
        if (paper instanceof Ticket t) {
            return t.pool.kind;
        }
        if (paper instanceof Note) {
            return NOTE;
        }
        return paper == null ? NONE : ROW;
    }

    private int put(Satchel to, int place, Paper paper) {
        if (to == null) {
            return NULL;
        }
        if (!to.has(place)) {
            return INDEX;
        }
        if (!to.takes(paper)) {
            return STORE;
        }
        to.places[place] = paper instanceof Ticket t ? t : null;
        return 0;
    }

    private int lapTrouble(int race, int k) {
        Race r = raceOf(race);
        if (r == null) {
            return UNKNOWN;
        }
        return k < 0 || k >= r.lapCount ? INDEX : 0;
    }

    // ---- bodies

    private void write(int body) {
        if (traceLength < MOST_TRACE) {
            traced[traceLength] = body;
            traceLength++;
        }
    }

    private int weightOf(Ticket t) {
        switch (t.pool.kind) {
            case WIN: return winWeight(t);
            case PLACE: return placeWeight(t);
            case PAIR: return pairWeight(t);
            case ORDER: return orderWeight(t);
            default: return doubleWeight(t);
        }
    }

    private int winWeight(Ticket t) {
        write(10);
        return t.size;
    }

    private int placeWeight(Ticket t) {
        write(11);
        return winWeight(t) / 2;
    }

    private int pairWeight(Ticket t) {
        write(12);
        return 3 * winWeight(t);
    }

    private int orderWeight(Ticket t) {
        write(13);
        return 2 * pairWeight(t);
    }

    private int doubleWeight(Ticket t) {
        write(14);
        return winWeight(t) + 1;
    }

    private int pointsOf(Ticket t) {
        switch (t.pool.kind) {
            case ORDER:
                write(21);
                return commonPoints(t) - 7;
            case PLACE:
                write(22);
                return t.size == 1 ? 3 : commonPoints(t);
            default:
                return commonPoints(t);
        }
    }

    private int commonPoints(Ticket t) {
        write(20);
        return 5 * weightOf(t);
    }

    private static final class Race {
        final int runners;
        // By RUNNER, from 1 on: POSITION, 0 without one, OUT; number 0 stands for no RUNNER and stays 0.
        final int[] positions;
        final int[] laps = new int[MOST_LAPS];
        int lapCount;
        int state;
        int running;
        int substitute;

        Race(int runners) {
            this.runners = runners;
            this.running = runners;
            this.positions = new int[runners + 1];
        }

        boolean has(int runner) {
            return runner >= 1 && runner <= runners;
        }

        boolean isOut(int runner) {
            return positions[runner] == OUT;
        }

        /** Why a call about a RUNNER is refused that wants the RACE in a state; 0: it isn't. */
        int runnerRefusal(int runner, int wanted) {
            if (!has(runner)) {
                return OUTSIDE;
            }
            if (isOut(runner)) {
                return GONE;
            }
            return state == wanted ? 0 : STATE;
        }

        void takeOut(int runner) {
            positions[runner] = OUT;
            running--;
        }

        int placed() {
            int sum = 0;
            for (int i = 1; i <= runners; i++) {
                if (positions[i] > 0) {
                    sum++;
                }
            }
            return sum;
        }

        boolean isRight() {
            for (int i = 1; i <= runners; i++) {
                if (positions[i] > 0 && ahead(positions[i]) != positions[i] - 1) {
                    return false;
                }
            }
            return true;
        }

        private int ahead(int position) {
            int sum = 0;
            for (int i = 1; i <= runners; i++) {
                if (positions[i] > 0 && positions[i] < position) {
                    sum++;
                }
            }
            return sum;
        }

        /** Whether the ROW a, b, c FITS; b, c may be 0: it is to have fewer. */
        boolean fits(int a, int b, int c) {
            int last = positions[a];
            if (last <= 0) {
                return false;
            }
            if (b != 0) {
                if (positions[b] < last) {
                    return false;
                }
                last = positions[b];
            }
            if (c != 0) {
                if (positions[c] < last) {
                    return false;
                }
                last = positions[c];
            }
            for (int i = 1; i <= runners; i++) {
                if (i != a && i != b && i != c && positions[i] > 0 && positions[i] < last) {
                    return false;
                }
            }
            return true;
        }

        /** How many POSITIONS WIN in PLACE; 0: it is VOID. */
        int placesThatWin() {
            if (running < 5) {
                return 0;
            }
            return running < 8 ? 2 : 3;
        }

        int numberCount() {
            int sum = 0;
            for (int k = 0; k < lapCount; k++) {
                if (FloatBits.isNumber(laps[k])) {
                    sum++;
                }
            }
            return sum;
        }

        float lapSum() {
            float sum = 0f;
            for (int k = 0; k < lapCount; k++) {
                if (FloatBits.isNumber(laps[k])) {
                    sum = sum + FloatBits.floatOf(laps[k]);
                }
            }
            return sum;
        }

        int extremeLap(boolean greatest) {
            int bits = NO_NUMBER;
            float extreme = 0f;
            for (int k = 0; k < lapCount; k++) {
                if (FloatBits.isNumber(laps[k])) {
                    float value = FloatBits.floatOf(laps[k]);
                    if (bits == NO_NUMBER || (greatest ? value > extreme : value < extreme)) {
                        bits = laps[k];
                        extreme = value;
                    }
                }
            }
            return bits;
        }
    }

    private static final class Pool {
        final int number;
        final int kind;
        // A POOL of one RACE has it twice, so that b and c are always RUNNERS of the second.
        final Race first;
        final Race second;
        final int deduction;
        final int unit;
        final int[] book = new int[FIGURES];

        Pool(int number, int kind, Race first, Race second, int deduction, int unit) {
            this.number = number;
            this.kind = kind;
            this.first = first;
            this.second = second;
            this.deduction = deduction;
            this.unit = unit;
        }

        boolean isSettled() {
            return book[SETTLED] == 1;
        }

        boolean isVoid() {
            switch (kind) {
                case PLACE: return first.placesThatWin() == 0;
                case PAIR: return first.running < 2;
                case ORDER: return first.running < 3;
                default: return false;
            }
        }

        /** STAKES of the LIVE TICKETS, before the POOL is SETTLED. */
        int gross() {
            return book[SOLD] - book[TAKEN_BACK] - book[HANDED_BACK];
        }

        int rowRefusal(int a, int b, int c) {
            boolean bCounts = kind >= PAIR;
            boolean cCounts = kind == ORDER;
            if (!first.has(a) || (bCounts ? !second.has(b) : b != 0) || (cCounts ? !second.has(c) : c != 0)) {
                return OUTSIDE;
            }
            if ((kind == PAIR || kind == ORDER) && a == b) {
                return SAME;
            }
            return kind == ORDER && (a == c || b == c) ? SAME : 0;
        }

        long digestFrom(long start) {
            long h = 31L * start + number;
            for (int i = 0; i < FIGURES; i++) {
                h = 31L * h + book[i];
            }
            return h;
        }
    }

    /** What a SLIP may hold. */
    private interface Paper {
    }

    private static final class Ticket implements Paper {
        final int number;
        final Pool pool;
        final int window;
        final int size;
        int a;
        int b;
        int c;
        int state;
        // Stays 0 but for a TICKET that was LIVE as its POOL was SETTLED, and won.
        int dividend;

        Ticket(int number, Pool pool, int window, int size) {
            this.number = number;
            this.pool = pool;
            this.window = window;
            this.size = size;
        }

        void setRow(int one, int two, int three) {
            boolean turned = pool.kind == PAIR && two < one;
            a = turned ? two : one;
            b = turned ? one : two;
            c = three;
        }

        int slot() {
            return slotOf(pool.kind, a, b, c);
        }

        int stake() {
            return size * pool.unit;
        }

        int due() {
            return size * dividend;
        }

        boolean isFor(Race r, int runner) {
            return (pool.first == r && a == runner) || (pool.second == r && (b == runner || c == runner));
        }

        void exchange(Race r, int runner, int other) {
            if (pool.first == r && a == runner) {
                a = other;
            }
            if (pool.second == r && b == runner) {
                b = other;
            }
        }

        void refund() {
            state = REFUNDED;
            pool.book[HANDED_BACK] += stake();
        }

        boolean isPayable() {
            return state == LIVE && pool.isSettled();
        }

        int handOver() {
            state = PAID;
            pool.book[PAID_OUT] += due();
            return due();
        }

        boolean wins() {
            if (pool.isVoid()) {
                return false;
            }
            Race r = pool.first;
            switch (pool.kind) {
                case WIN: return r.fits(a, 0, 0);
                case PLACE: return r.positions[a] > 0 && r.positions[a] <= r.placesThatWin();
                case PAIR: return r.fits(a, b, 0) || r.fits(b, a, 0);
                case ORDER: return r.fits(a, b, c);
                default: return r.fits(a, 0, 0) && pool.second.fits(b, 0, 0);
            }
        }

        long digestFrom(long start) {
            long h = 31L * start + a;
            h = 31L * h + b;
            h = 31L * h + size;
            return 31L * h + state;
        }
    }

    private static final class Note implements Paper {
        final long letters;
        final int length;

        Note(long letters, int length) {
            this.letters = letters;
            this.length = length;
        }

        int charOf(int k) {
            return (int) (letters >>> (16 * (length - 1 - k))) & 0xFFFF;
        }
    }

    private static final class CoinRow implements Paper {
        final int[] values;

        CoinRow(int n) {
            values = new int[n];
        }
    }

    private static final class Drawer {
        final Paper[] slips;

        Drawer(int n) {
            slips = new Paper[n];
        }
    }

    private static final class Satchel {
        final int form;
        final Ticket[] places;

        Satchel(int form, int n) {
            this.form = form;
            places = new Ticket[n];
        }

        boolean has(int place) {
            return place >= 0 && place < places.length;
        }

        boolean takes(Paper paper) {
            if (paper instanceof Ticket t) {
                return takesKind(t.pool.kind);
            }
            return paper == null;
        }

        private boolean takesKind(int k) {
            switch (form) {
                case 1: return k == WIN || k == PLACE;
                case 2: return k == PAIR || k == ORDER;
                case 3: return k == ORDER;
                case 4: return k == DOUBLE;
                case 5: return k == PLACE;
                default: return true;
            }
        }
    }

    /** How the NET of a POOL goes to its TAKERS; one for each KIND, used again. */
    private static final class Share {
        final int kind;
        int unit;
        int deducted;
        int net;
        int places;
        int takers;
        int takerUnits;

        Share(int kind) {
            this.kind = kind;
        }

        void begin(Pool p) {
            int gross = p.gross();
            unit = p.unit;
            deducted = (int) ((long) gross * p.deduction / 1000);
            net = gross - deducted + p.book[CARRIED_IN];
            places = p.first.placesThatWin();
            takers = 0;
            takerUnits = 0;
        }

        void countOne(int size) {
            takers = 0;
            takerUnits = 0;
            countAlso(size);
        }

        void countAlso(int size) {
            if (size > 0) {
                takers++;
                takerUnits += size;
            }
        }

        private int gain() {
            return kind == PLACE ? net - takerUnits * unit : net;
        }

        /** COST: what NET lacks for the UNITS of PLACE. */
        int missing() {
            return Math.max(0, -gain());
        }

        int dividendFor(int size) {
            if (takers <= 0 || size <= 0) {
                return 0;
            }
            int each = Math.max(0, gain()) / takers / size;
            int tens = each - each % 10;
            return kind == PLACE ? unit + tens : tens;
        }
    }

    /** Floats by their bits, without the library's functions for them. */
    private static final class FloatBits {
        private static final int ENDLESS = 0x7F800000, SIGN = 0x80000000, HIDDEN = 0x800000;
        // The EXPONENT at which the mantissa, taken as an int, is the value itself.
        private static final int WHOLE = 150;

        static boolean isNone(int bits) {
            return (bits & ~SIGN) > ENDLESS;
        }

        static boolean isNumber(int bits) {
            return (bits & ~SIGN) < ENDLESS;
        }

        private static int exponentOf(int bits) {
            return Math.max(1, (bits >>> 23) & 255);
        }

        private static int mantissaOf(int bits) {
            int low = bits & (HIDDEN - 1);
            return ((bits >>> 23) & 255) == 0 ? low : low + HIDDEN;
        }

        /** Bits of mantissa, below twice HIDDEN, at an exponent from 1 on; the sign bit alone of sign counts. */
        private static int join(int sign, int exponent, int mantissa) {
            int m = mantissa;
            int e = exponent;
            for (; m < HIDDEN && e > 1; e--) {
                m = 2 * m;
            }
            return (sign & SIGN) | (m < HIDDEN ? m : (e << 23) + m - HIDDEN);
        }

        /** Each step is exact: no bit is lost above the least exponent, and NUMBERS don't go above the greatest. */
        static float floatOf(int bits) {
            int exponent = exponentOf(bits);
            float value = (float) mantissaOf(bits);
            for (int e = exponent; e > WHOLE; e--) {
                value = value * 2f;
            }
            for (int e = exponent; e < WHOLE; e++) {
                value = value * 0.5f;
            }
            return bits < 0 ? 0f - value : value;
        }

        static int bitsOf(float value, boolean below) {
            int sign = below ? SIGN : 0;
            float size = below ? 0f - value : value;
            int exponent = WHOLE;
            for (; size >= 16777216f && exponent < 255; exponent++) {
                size = size * 0.5f;
            }
            if (exponent == 255) {
                return sign | ENDLESS;
            }
            for (; size < 8388608f && exponent > 1; exponent--) {
                size = size * 2f;
            }
            return join(sign, exponent, (int) size);
        }

        static int modulo(int lap, int step) {
            int divisor = mantissaOf(step);
            if (!isNumber(lap) || isNone(step) || divisor == 0) {
                return NO_NUMBER;
            }
            int exponent = exponentOf(step);
            // A lesser exponent is a lesser number, and so its own remainder; also by an endless step.
            if (exponentOf(lap) < exponent) {
                return lap;
            }
            int left = mantissaOf(lap) % divisor;
            for (int e = exponentOf(lap); e > exponent; e--) {
                left = 2 * left % divisor;
            }
            return join(lap, exponent, left);
        }
    }
}
