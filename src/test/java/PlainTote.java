import java.util.ArrayList;
import java.util.HashMap;
import java.util.HashSet;
import java.util.List;
import java.util.Map;
import java.util.Set;
import java.util.TreeMap;

/** The document in its plainest form, by sets and maps and with no regard for cost: what ToteHouse is held against. */
public final class PlainTote {
    private static final int NONE = -1, UNKNOWN = -2, OUTSIDE = -3, SAME = -4, GONE = -5, STATE = -6, FULL = -7;
    private static final int NO_NUMBER = 0x7FC00000;

    private static final class Race {
        int n;
        int state;
        int substitute;
        final Set<Integer> out = new HashSet<>();
        Map<Integer, Integer> positions = new HashMap<>();
        final List<Float> laps = new ArrayList<>();

        int running() {
            return n - out.size();
        }
    }

    private static final class Pool {
        int number;
        int kind;
        int deduction;
        int unit;
        Race[] races;
        long carriedIn;
        Outcome outcome;
    }

    private static final class Ticket {
        int number;
        Pool pool;
        int[] row;
        int units;
        int window;
        int state;

        List<Integer> key() {
            return keyOf(pool, row[0], row[1], row[2]);
        }

        long stake() {
            return (long) units * pool.unit;
        }

        long due() {
            boolean can = pool.outcome != null && (state == 0 || state == 3);
            return can ? (long) units * pool.outcome.dividends.getOrDefault(key(), 0L) : 0;
        }
    }

    private static final class Outcome {
        boolean refunded;
        long deducted;
        long carriedOut;
        long breakage;
        long cost;
        long due;
        final Map<List<Integer>, Long> dividends = new HashMap<>();
    }

    private static final class Satchel {
        int form;
        Ticket[] places;
    }

    private static final class Finding extends RuntimeException {
        private static final long serialVersionUID = 1L;
        final int number;

        Finding(int number) {
            this.number = number;
        }
    }

    private static final class Refusal extends RuntimeException {
        private static final long serialVersionUID = 1L;
        final int answer;

        Refusal(int answer) {
            this.answer = answer;
        }
    }

    private interface Act {
        long answer();
    }

    private final List<Race> races = new ArrayList<>();
    private final Map<Integer, Pool> pools = new TreeMap<>();
    private final List<Ticket> tickets = new ArrayList<>();
    private final Object[][] drawers = new Object[6][];
    private final Satchel[] satchels = new Satchel[4];
    private final List<Integer> traced = new ArrayList<>();
    private final Map<Integer, Integer> findings = new HashMap<>();
    private int latest;
    private int came;
    private long rest;
    private long worstDue;

    private int act(Act a) {
        try {
            return (int) a.answer();
        } catch (Refusal r) {
            return r.answer;
        } catch (Finding f) {
            latest = f.number;
            findings.merge(f.number, 1, Integer::sum);
            return -10 - f.number;
        }
    }

    private int actOrZero(Act a) {
        boolean[] refused = {true};
        int answer = act(() -> {
            long got = a.answer();
            refused[0] = false;
            return got;
        });
        return refused[0] ? 0 : answer;
    }

    private static void refuse(boolean when, int answer) {
        if (when) {
            throw new Refusal(answer);
        }
    }

    private static void find(boolean when, int number) {
        if (when) {
            throw new Finding(number);
        }
    }

    private Race raceOf(int r) {
        refuse(r < 0 || r >= races.size(), UNKNOWN);
        return races.get(r);
    }

    private Pool poolOf(int p) {
        refuse(!pools.containsKey(p), UNKNOWN);
        return pools.get(p);
    }

    private Ticket ticketOf(int t) {
        refuse(t < 0 || t >= tickets.size(), UNKNOWN);
        return tickets.get(t);
    }

    private static boolean between(long least, long x, long most) {
        return least <= x && x <= most;
    }

    private static void terms(int deduction, int unit) {
        refuse(!between(0, deduction, 500) || !between(10, unit, 1000) || unit % 10 != 0, OUTSIDE);
    }

    // ---- the day

    public int race(int n) {
        return act(() -> {
            refuse(!between(2, n, 12), OUTSIDE);
            refuse(races.size() == 12, FULL);
            Race r = new Race();
            r.n = n;
            races.add(r);
            return races.size() - 1;
        });
    }

    private int add(int number, int kind, int deduction, int unit, Race... of) {
        refuse(pools.containsKey(number), SAME);
        for (Race r : of) {
            refuse(r.state != 0, STATE);
        }
        Pool p = new Pool();
        p.number = number;
        p.kind = kind;
        p.deduction = deduction;
        p.unit = unit;
        p.races = of;
        pools.put(number, p);
        return number;
    }

    public int pool(int race, int kind, int deduction, int unit) {
        return act(() -> {
            Race r = raceOf(race);
            refuse(!between(0, kind, 3), OUTSIDE);
            terms(deduction, unit);
            return add(4 * race + kind, kind, deduction, unit, r);
        });
    }

    public int twin(int first, int second, int deduction, int unit) {
        return act(() -> {
            Race a = raceOf(first);
            Race b = raceOf(second);
            refuse(first >= second, OUTSIDE);
            terms(deduction, unit);
            return add(48, 4, deduction, unit, a, b);
        });
    }

    private Race runnerOf(int race, int runner, int state) {
        Race r = raceOf(race);
        refuse(!between(1, runner, r.n), OUTSIDE);
        refuse(r.out.contains(runner), GONE);
        refuse(r.state != state, STATE);
        return r;
    }

    public int substitute(int race, int runner) {
        return act(() -> {
            Race r = runnerOf(race, runner, 0);
            int before = r.substitute;
            r.substitute = runner;
            return before;
        });
    }

    public int scratch(int race, int runner) {
        return act(() -> {
            Race r = runnerOf(race, runner, 0);
            r.out.add(runner);
            int met = 0;
            for (Ticket t : tickets) {
                for (int leg = 0; leg < 3; leg++) {
                    Race of = t.pool.kind == 4 ? t.pool.races[Math.min(leg, 1)] : t.pool.races[0];
                    if (t.state == 0 && of == r && t.row[leg] == runner) {
                        met++;
                        boolean has = r.substitute != 0 && !r.out.contains(r.substitute);
                        if (t.pool.kind == 4 && has) {
                            t.row[leg] = r.substitute;
                        } else {
                            t.state = 2;
                        }
                        break;
                    }
                }
            }
            return met;
        });
    }

    public int off(int race) {
        return act(() -> {
            Race r = raceOf(race);
            refuse(r.state != 0, STATE);
            r.state = 1;
            return r.running();
        });
    }

    public int place(int race, int runner, int position) {
        return act(() -> {
            Race known = raceOf(race);
            refuse(!between(1, runner, known.n) || !between(0, position, 12), OUTSIDE);
            Race r = runnerOf(race, runner, 1);
            int before = r.positions.getOrDefault(runner, 0);
            if (position == 0) {
                r.positions.remove(runner);
            } else {
                r.positions.put(runner, position);
            }
            return before;
        });
    }

    public int official(int race) {
        return act(() -> {
            Race r = raceOf(race);
            refuse(r.state != 1, STATE);
            for (int p : r.positions.values()) {
                refuse(r.positions.values().stream().filter(q -> q < p).count() != p - 1, STATE);
            }
            refuse(r.positions.size() < 3 && r.positions.size() < r.running(), STATE);
            r.state = 2;
            int settled = 0;
            for (Pool p : pools.values()) {
                boolean all = true;
                for (Race of : p.races) {
                    all &= of.state == 2;
                }
                if (all && p.outcome == null) {
                    settle(p);
                    settled++;
                }
            }
            return settled;
        });
    }

    private void settle(Pool p) {
        Race last = p.races[p.races.length - 1];
        p.outcome = outcome(p, p.races[0].positions, last.positions, liveUnits(p));
        if (p.outcome.refunded) {
            for (Ticket t : tickets) {
                if (t.pool == p && t.state == 0) {
                    t.state = 2;
                }
            }
        }
        if (p.kind == 3) {
            Pool to = null;
            for (int n = p.number + 4; n < 48 && to == null; n += 4) {
                if (pools.containsKey(n) && pools.get(n).races[0].state != 2) {
                    to = pools.get(n);
                }
            }
            if (to == null) {
                rest += p.outcome.carriedOut;
            } else {
                to.carriedIn += p.outcome.carriedOut;
            }
        }
    }

    private Map<List<Integer>, Integer> liveUnits(Pool p) {
        Map<List<Integer>, Integer> units = new HashMap<>();
        for (Ticket t : tickets) {
            if (t.pool == p && t.state == 0) {
                units.merge(t.key(), t.units, Integer::sum);
            }
        }
        return units;
    }

    private static List<Integer> keyOf(Pool p, int a, int b, int c) {
        return p.kind == 2 ? List.of(Math.min(a, b), Math.max(a, b), c) : List.of(a, b, c);
    }

    /** All ROWS of so many that FIT. */
    private static List<List<Integer>> rows(Map<Integer, Integer> positions, int length) {
        List<List<Integer>> all = List.of(List.of());
        for (int i = 0; i < length; i++) {
            List<List<Integer>> longer = new ArrayList<>();
            for (List<Integer> row : all) {
                for (int runner : positions.keySet()) {
                    if (!row.contains(runner)) {
                        List<Integer> next = new ArrayList<>(row);
                        next.add(runner);
                        longer.add(next);
                    }
                }
            }
            all = longer;
        }
        all = new ArrayList<>(all);
        all.removeIf(row -> !fits(positions, row));
        return all;
    }

    private static boolean fits(Map<Integer, Integer> positions, List<Integer> row) {
        for (int i = 0; i < row.size(); i++) {
            for (int j = i + 1; j < row.size(); j++) {
                if (positions.get(row.get(i)) > positions.get(row.get(j))) {
                    return false;
                }
            }
            for (int other : positions.keySet()) {
                if (!row.contains(other) && positions.get(other) < positions.get(row.get(i))) {
                    return false;
                }
            }
        }
        return true;
    }

    /** What WINS; null: the POOL is VOID. */
    private static Set<List<Integer>> winners(Pool p, Map<Integer, Integer> first, Map<Integer, Integer> second) {
        int running = p.races[0].running();
        Set<List<Integer>> wins = new HashSet<>();
        if (p.kind == 0) {
            rows(first, 1).forEach(row -> wins.add(List.of(row.get(0), 0, 0)));
        } else if (p.kind == 1) {
            if (running < 5) {
                return null;
            }
            first.forEach((runner, position) -> {
                if (position <= (running >= 8 ? 3 : 2)) {
                    wins.add(List.of(runner, 0, 0));
                }
            });
        } else if (p.kind == 2) {
            if (running < 2) {
                return null;
            }
            rows(first, 2).forEach(row -> wins.add(keyOf(p, row.get(0), row.get(1), 0)));
        } else if (p.kind == 3) {
            if (running < 3) {
                return null;
            }
            wins.addAll(rows(first, 3));
        } else {
            for (List<Integer> a : rows(first, 1)) {
                for (List<Integer> b : rows(second, 1)) {
                    wins.add(List.of(a.get(0), b.get(0), 0));
                }
            }
        }
        return wins;
    }

    private static Outcome outcome(Pool p, Map<Integer, Integer> first, Map<Integer, Integer> second,
            Map<List<Integer>, Integer> live) {
        Outcome o = new Outcome();
        long gross = 0;
        for (int units : live.values()) {
            gross += (long) units * p.unit;
        }
        long deducted = gross * p.deduction / 1000;
        long net = gross - deducted + p.carriedIn;
        Set<List<Integer>> takers = winners(p, first, second);
        boolean isVoid = takers == null;
        if (!isVoid) {
            takers.retainAll(live.keySet());
        }
        if (isVoid || (takers.isEmpty() && p.kind != 3)) {
            o.refunded = true;
            o.carriedOut = p.carriedIn;
            return o;
        }
        o.deducted = deducted;
        if (takers.isEmpty()) {
            o.carriedOut = net;
            return o;
        }
        long gain = net;
        for (List<Integer> key : takers) {
            gain -= p.kind == 1 ? (long) live.get(key) * p.unit : 0;
        }
        o.cost = gain < 0 ? -gain : 0;
        long paid = 0;
        for (List<Integer> key : takers) {
            long each = gain < 0 ? 0 : gain / takers.size() / live.get(key) / 10 * 10;
            long dividend = (p.kind == 1 ? p.unit : 0) + each;
            o.dividends.put(key, dividend);
            paid += dividend * live.get(key);
        }
        o.due = paid;
        o.breakage = net + o.cost - paid;
        return o;
    }

    public int raceAt(int race, int what) {
        return act(() -> {
            Race r = raceOf(race);
            if (between(11, what, 10 + r.n)) {
                return r.out.contains(what - 10) ? -1 : r.positions.getOrDefault(what - 10, 0);
            }
            refuse(!between(0, what, 4), OUTSIDE);
            Pool order = pools.get(4 * race + 3);
            return new long[] {r.state, r.n, r.running(), r.substitute, order == null ? 0 : order.carriedIn}[what];
        });
    }

    // ---- tickets

    private static void row(Pool p, int a, int b, int c) {
        int counts = new int[] {1, 1, 2, 3, 2}[p.kind];
        int[] row = {a, b, c};
        for (int i = 0; i < 3; i++) {
            Race of = p.races[p.kind == 4 ? Math.min(i, 1) : 0];
            refuse(i < counts ? !between(1, row[i], of.n) : row[i] != 0, OUTSIDE);
        }
        refuse(p.kind == 2 && a == b, SAME);
        refuse(p.kind == 3 && (a == b || a == c || b == c), SAME);
    }

    public int sell(int window, int pool, int a, int b, int c, int units) {
        return act(() -> {
            refuse(!between(0, window, 5), UNKNOWN);
            Pool p = poolOf(pool);
            refuse(!between(1, units, 1000), OUTSIDE);
            row(p, a, b, c);
            Race last = p.races[p.races.length - 1];
            refuse(p.races[0].out.contains(a) || last.out.contains(b) || last.out.contains(c), GONE);
            refuse(p.races[0].state != 0 || last.state != 0, STATE);
            refuse(tickets.size() == 200, FULL);
            Ticket t = new Ticket();
            t.number = tickets.size();
            t.pool = p;
            t.units = units;
            t.window = window;
            List<Integer> key = keyOf(p, a, b, c);
            t.row = new int[] {key.get(0), key.get(1), key.get(2)};
            tickets.add(t);
            return t.number;
        });
    }

    public int cancel(int ticket) {
        return act(() -> {
            Ticket t = ticketOf(ticket);
            refuse(t.state != 0 || t.pool.races[0].state != 0, STATE);
            t.state = 1;
            return t.stake();
        });
    }

    public int pay(int ticket) {
        return act(() -> {
            Ticket t = ticketOf(ticket);
            refuse(t.state != 0 || t.pool.outcome == null, STATE);
            t.state = 3;
            return t.due();
        });
    }

    public int ticket(int ticket, int what) {
        return act(() -> {
            Ticket t = ticketOf(ticket);
            refuse(!between(0, what, 7), OUTSIDE);
            return new long[] {t.pool.number, t.row[0], t.row[1], t.row[2], t.units, t.state, t.window, t.due()}[what];
        });
    }

    public int units(int pool, int a, int b, int c) {
        return act(() -> {
            Pool p = poolOf(pool);
            row(p, a, b, c);
            return liveUnits(p).getOrDefault(keyOf(p, a, b, c), 0);
        });
    }

    public int dividend(int pool, int a, int b, int c) {
        return act(() -> {
            Pool p = poolOf(pool);
            row(p, a, b, c);
            refuse(p.outcome == null, STATE);
            return p.outcome.dividends.getOrDefault(keyOf(p, a, b, c), 0L);
        });
    }

    private static Map<Integer, Integer> inOrder(int a, int b, int c) {
        Map<Integer, Integer> positions = new HashMap<>(Map.of(a, 1, b, 2));
        if (c != 0) {
            positions.put(c, 3);
        }
        return positions;
    }

    public int odds(int pool, int a, int b, int c) {
        return act(() -> {
            Pool p = poolOf(pool);
            refuse(p.kind == 4, UNKNOWN);
            Race r = p.races[0];
            refuse(!between(1, a, r.n) || !between(1, b, r.n) || !between(0, c, r.n), OUTSIDE);
            refuse(a == b || a == c || b == c, SAME);
            refuse(r.out.contains(a) || r.out.contains(b) || r.out.contains(c), GONE);
            refuse(r.state == 2, STATE);
            Map<Integer, Integer> positions = inOrder(a, b, c);
            Outcome o = outcome(p, positions, positions, liveUnits(p));
            List<Integer> key = keyOf(p, a, p.kind >= 2 ? b : 0, p.kind == 3 ? c : 0);
            return o.dividends.getOrDefault(key, 0L);
        });
    }

    private long stakes(Pool p, int state) {
        return tickets.stream().filter(t -> t.pool == p && (state < 0 || t.state == state))
                .mapToLong(Ticket::stake).sum();
    }

    public int book(int pool, int what) {
        return act(() -> {
            Pool p = poolOf(pool);
            refuse(!between(0, what, 10), OUTSIDE);
            Outcome o = p.outcome == null ? new Outcome() : p.outcome;
            long paid = tickets.stream().filter(t -> t.pool == p && t.state == 3).mapToLong(Ticket::due).sum();
            return new long[] {stakes(p, -1), stakes(p, 1), stakes(p, 2), o.deducted, p.carriedIn, o.carriedOut,
                o.breakage, o.cost, o.due, paid, p.outcome == null ? 0 : 1}[what];
        });
    }

    public int rest() {
        return (int) rest;
    }

    public int unclaimed() {
        return (int) tickets.stream().filter(t -> t.state == 0).mapToLong(Ticket::due).sum();
    }

    public int worst(int race) {
        return act(() -> {
            Race r = raceOf(race);
            refuse(r.state == 2, STATE);
            refuse(r.running() < 2, GONE);
            Map<Pool, Map<List<Integer>, Integer>> live = new HashMap<>();
            for (Pool p : pools.values()) {
                if (p.kind != 4 && p.races[0] == r) {
                    live.put(p, liveUnits(p));
                }
            }
            long most = -1;
            int row = 0;
            for (int abc = 0; abc < 13 * 13 * 13; abc++) {
                int a = abc / 169;
                int b = abc / 13 % 13;
                int c = abc % 13;
                if (!isIn(r, a) || !isIn(r, b) || a == b || a == c || b == c) {
                    continue;
                }
                if (r.running() == 2 ? c != 0 : !isIn(r, c)) {
                    continue;
                }
                Map<Integer, Integer> positions = inOrder(a, b, c);
                long due = 0;
                for (Pool p : live.keySet()) {
                    due += outcome(p, positions, positions, live.get(p)).due;
                }
                if (due > most) {
                    most = due;
                    row = 10000 * a + 100 * b + c;
                }
            }
            worstDue = most;
            return row;
        });
    }

    private static boolean isIn(Race r, int runner) {
        return between(1, runner, r.n) && !r.out.contains(runner);
    }

    public int worstDue() {
        return (int) worstDue;
    }

    public int premium(int window) {
        return act(() -> {
            refuse(!between(0, window, 5), UNKNOWN);
            find(tickets.isEmpty(), 6);
            long all = tickets.stream().mapToLong(t -> t.units).sum();
            long here = tickets.stream().filter(t -> t.window == window).mapToLong(t -> t.units).sum();
            return deducted() * here / all;
        });
    }

    private long deducted() {
        return pools.values().stream().mapToLong(p -> p.outcome == null ? 0 : p.outcome.deducted).sum();
    }

    // ---- drawers

    private static void window(int window) {
        refuse(!between(0, window, 5), UNKNOWN);
    }

    private Object[] slips(int window, int i) {
        find(drawers[window] == null, 1);
        find(!between(0, i, drawers[window].length - 1), 2);
        return drawers[window];
    }

    public int drawer(int window, int n) {
        return act(() -> {
            window(window);
            refuse(n > 12, OUTSIDE);
            find(n < 0, 5);
            drawers[window] = new Object[n];
            return n;
        });
    }

    public int lose(int window) {
        return act(() -> {
            window(window);
            find(drawers[window] == null, 1);
            int n = drawers[window].length;
            drawers[window] = null;
            return n;
        });
    }

    public int keep(int window, int i, int ticket) {
        return act(() -> {
            window(window);
            Ticket t = ticketOf(ticket);
            slips(window, i)[i] = t;
            return 1;
        });
    }

    public int note(int window, int i, long letters, int n) {
        return act(() -> {
            window(window);
            refuse(!between(1, n, 4), OUTSIDE);
            char[] chars = new char[n];
            long left = letters;
            for (int k = n - 1; k >= 0; k--) {
                chars[k] = (char) left;
                left >>= 16;
            }
            slips(window, i)[i] = new String(chars);
            return n;
        });
    }

    public int coins(int window, int i, int n) {
        return act(() -> {
            window(window);
            refuse(n > 8, OUTSIDE);
            Object[] slips = slips(window, i);
            find(n < 0, 5);
            slips[i] = new int[n];
            return n;
        });
    }

    private static int kindOf(Object o) {
        if (o == null) {
            return NONE;
        }
        return o instanceof Ticket t ? t.pool.kind : o instanceof String ? 5 : 6;
    }

    public int clear(int window, int i) {
        return act(() -> {
            window(window);
            Object[] slips = slips(window, i);
            int before = kindOf(slips[i]);
            slips[i] = null;
            return before;
        });
    }

    public int kind(int window, int i) {
        return act(() -> {
            window(window);
            return kindOf(slips(window, i)[i]);
        });
    }

    private <X> X held(int window, int i, Class<X> as) {
        window(window);
        Object o = slips(window, i)[i];
        find(o == null, 1);
        find(!as.isInstance(o), 3);
        return as.cast(o);
    }

    public int read(int window, int i) {
        return act(() -> held(window, i, Ticket.class).number);
    }

    public int letter(int window, int i, int k) {
        return act(() -> {
            String s = held(window, i, String.class);
            find(!between(0, k, s.length() - 1), 2);
            return s.charAt(k);
        });
    }

    private int[] row(int window, int i, int k) {
        int[] row = held(window, i, int[].class);
        find(!between(0, k, row.length - 1), 2);
        return row;
    }

    public int coin(int window, int i, int k, int v) {
        return act(() -> {
            row(window, i, k)[k] = v;
            return 1;
        });
    }

    public int coinAt(int window, int i, int k) {
        return actOrZero(() -> row(window, i, k)[k]);
    }

    public int change(int window, int i, int k, int l) {
        return actOrZero(() -> {
            int a = row(window, i, k)[k];
            int b = row(window, i, l)[l];
            find(b == 0, 6);
            return (int) ((long) a / b);
        });
    }

    // ---- satchels

    private static void satchelNumber(int s) {
        refuse(!between(0, s, 3), UNKNOWN);
    }

    public int satchel(int s, int form, int n) {
        return act(() -> {
            satchelNumber(s);
            refuse(!between(0, form, 5) || n > 10, OUTSIDE);
            find(n < 0, 5);
            satchels[s] = new Satchel();
            satchels[s].form = form;
            satchels[s].places = new Ticket[n];
            return n;
        });
    }

    private static void put(Satchel to, int place, Object o) {
        find(to == null, 1);
        find(!between(0, place, to.places.length - 1), 2);
        Set<Integer> kinds = List.of(Set.of(0, 1, 2, 3, 4), Set.of(0, 1), Set.of(2, 3), Set.of(3), Set.of(4),
                Set.of(1)).get(to.form);
        find(o != null && !kinds.contains(kindOf(o)), 4);
        to.places[place] = (Ticket) o;
    }

    public int gather(int s, int at, int window, int i, int n) {
        return act(() -> {
            satchelNumber(s);
            window(window);
            refuse(!between(0, n, 12), OUTSIDE);
            came = 0;
            for (int k = 0; k < n; k++) {
                Object o = slips(window, i + k)[i + k];
                put(satchels[s], at + k, o);
                came++;
            }
            return n;
        });
    }

    public int shift(int s, int i, int t, int j, int n) {
        return act(() -> {
            satchelNumber(s);
            satchelNumber(t);
            refuse(!between(0, n, 10), OUTSIDE);
            came = 0;
            find(satchels[s] == null || satchels[t] == null, 1);
            Ticket[] from = satchels[s].places.clone();
            for (int k = 0; k < n; k++) {
                find(!between(0, i + k, from.length - 1), 2);
                put(satchels[t], j + k, from[i + k]);
                came++;
            }
            return n;
        });
    }

    public int came() {
        return came;
    }

    public int held(int s, int place) {
        return act(() -> {
            satchelNumber(s);
            find(satchels[s] == null, 1);
            find(!between(0, place, satchels[s].places.length - 1), 2);
            Ticket t = satchels[s].places[place];
            return t == null ? NONE : t.number;
        });
    }

    public int cash(int s) {
        return act(() -> {
            satchelNumber(s);
            find(satchels[s] == null, 1);
            long sum = 0;
            for (Ticket t : satchels[s].places) {
                if (t != null) {
                    sum += Math.max(0, pay(t.number));
                }
            }
            return sum;
        });
    }

    // ---- laps

    private static int bits(float f) {
        return Float.isNaN(f) ? NO_NUMBER : Float.floatToRawIntBits(f);
    }

    public int lap(int race, int bits) {
        return act(() -> {
            Race r = raceOf(race);
            refuse(r.laps.size() == 12, FULL);
            r.laps.add(Float.intBitsToFloat(bits));
            return r.laps.size();
        });
    }

    private float lapOf(int race, int k) {
        Race r = raceOf(race);
        find(!between(0, k, r.laps.size() - 1), 2);
        return r.laps.get(k);
    }

    public int lapAt(int race, int k) {
        return actOrZero(() -> bits(lapOf(race, k)));
    }

    public int pace(int race, int what) {
        return actOrZero(() -> {
            Race r = raceOf(race);
            refuse(!between(0, what, 4), OUTSIDE);
            List<Float> numbers = r.laps.stream().filter(f -> Math.abs(f) <= Float.MAX_VALUE).toList();
            if (what == 4) {
                return numbers.size();
            }
            if (numbers.isEmpty()) {
                return NO_NUMBER;
            }
            float sum = 0f;
            float least = numbers.get(0);
            float greatest = numbers.get(0);
            for (float f : numbers) {
                sum += f;
                least = f < least ? f : least;
                greatest = f > greatest ? f : greatest;
            }
            return bits(new float[] {sum, sum / numbers.size(), least, greatest}[what]);
        });
    }

    public int remainder(int race, int k, int step) {
        return actOrZero(() -> bits(lapOf(race, k) % Float.intBitsToFloat(step)));
    }

    // ---- asks

    private int weight(int kind, int units) {
        traced.add(10 + kind);
        return switch (kind) {
            case 0 -> units;
            case 1 -> weight(0, units) / 2;
            case 2 -> weight(0, units) * 3;
            case 3 -> weight(2, units) * 2;
            default -> weight(0, units) + 1;
        };
    }

    private int points(int body, int kind, int units) {
        traced.add(body);
        if (body == 21) {
            return points(20, kind, units) - 7;
        }
        if (body == 22) {
            return units == 1 ? 3 : points(20, kind, units);
        }
        return 5 * weight(kind, units);
    }

    public int ask(int ticket, int what) {
        traced.clear();
        return act(() -> {
            Ticket t = ticketOf(ticket);
            refuse(!between(0, what, 1), OUTSIDE);
            int kind = t.pool.kind;
            return what == 0 ? weight(kind, t.units) : points(kind == 3 ? 21 : kind == 1 ? 22 : 20, kind, t.units);
        });
    }

    public int trace(int k) {
        return between(0, k, traced.size() - 1) ? traced.get(k) : NONE;
    }

    public int finding() {
        return latest;
    }

    public int count(int what) {
        return act(() -> {
            if (between(11, what, 16)) {
                return findings.getOrDefault(what - 10, 0);
            }
            refuse(!between(0, what, 5), OUTSIDE);
            long live = tickets.stream().filter(t -> t.state == 0).count();
            return new long[] {races.size(), pools.size(), tickets.size(), live, traced.size(), deducted()}[what];
        });
    }

    public long digest() {
        List<Long> numbers = new ArrayList<>();
        for (int r = 0; r < races.size(); r++) {
            numbers.add((long) races.get(r).state);
            for (int i = 1; i <= races.get(r).n; i++) {
                numbers.add((long) raceAt(r, 10 + i));
            }
            numbers.add((long) raceAt(r, 4));
        }
        for (int p : pools.keySet()) {
            numbers.add((long) p);
            for (int what = 0; what <= 10; what++) {
                numbers.add((long) book(p, what));
            }
        }
        for (Ticket t : tickets) {
            numbers.addAll(List.of((long) t.row[0], (long) t.row[1], (long) t.units, (long) t.state));
        }
        numbers.add(rest);
        long h = 17;
        for (long x : numbers) {
            h = 31 * h + x;
        }
        return h;
    }
}
