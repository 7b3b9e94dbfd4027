import java.util.ArrayList;
import java.util.Arrays;
import java.util.List;
import java.util.Map;

/** A refused call changes nothing but what is told: the FINDINGS, came(), THE TRACE. */
public final class RefusalTest {
    private static final int UNKNOWN = -2, OUTSIDE = -3, SAME = -4, GONE = -5, STATE = -6;
    private static final int NULL = 1, INDEX = 2, CAST = 3, STORE = 4, SIZE = 5, ZERO = 6;

    private record Refused(long answer, int finding, String name, Object[] args) {
    }

    private static final List<Refused> REFUSED = new ArrayList<>();

    private static void refused(long answer, String name, Object... args) {
        REFUSED.add(new Refused(answer, 0, name, args));
    }

    private static void found(int finding, String name, Object... args) {
        REFUSED.add(new Refused(-10 - finding, finding, name, args));
    }

    private static void foundByZero(int finding, String name, Object... args) {
        REFUSED.add(new Refused(0, finding, name, args));
    }

    public static void main(String[] args) {
        day();
        tickets();
        drawers();
        satchels();
        lapsAndAsks();
        Map<String, Long> before = new Looks(day(new ToteHouse())).all();
        for (Refused r : REFUSED) {
            leavesAll(r, before);
        }
        Check.end();
    }

    /** RACE 0 is OFFICIAL, 1 OFF, 2 SELLING; 3 has one RUNNER left; something in every corner. */
    private static ToteHouse day(ToteHouse x) {
        for (int race = 0; race < 4; race++) {
            x.race(5);
            for (int kind = 0; kind < 4; kind++) {
                x.pool(race, kind, 100, 10);
            }
        }
        x.twin(1, 2, 100, 10);
        for (int race = 0; race < 3; race++) {
            x.sell(race, 4 * race, 1, 0, 0, 3);
            x.sell(race, 4 * race + 1, 1, 0, 0, 3);
            x.sell(race, 4 * race + 2, 2, 1, 0, 3);
            x.sell(race, 4 * race + 3, 3, 2, 1, 3);
        }
        x.sell(5, 48, 1, 1, 0, 7);
        x.substitute(2, 3);
        x.scratch(2, 5);
        for (int i = 2; i <= 5; i++) {
            x.scratch(3, i);
        }
        x.cancel(8);
        Given.run(x, 0, 1, 2, 3);
        x.pay(0);
        x.off(1);
        x.scratch(1, 5);
        x.place(1, 1, 1);
        x.place(1, 2, 3);
        x.drawer(0, 6);
        x.keep(0, 0, 0);
        x.keep(0, 1, 2);
        x.note(0, 2, 0x0041004200430044L, 4);
        x.coins(0, 3, 3);
        x.coin(0, 3, 0, 17);
        x.coin(0, 3, 1, 5);
        x.satchel(0, 0, 3);
        x.satchel(1, 1, 2);
        x.gather(0, 0, 0, 0, 2);
        x.lap(0, 0x40490FDB);
        x.worst(2);
        x.ask(3, 1);
        return x;
    }

    private static void leavesAll(Refused r, Map<String, Long> before) {
        Looks x = new Looks(day(new ToteHouse()));
        long answer = x.call(r.name, r.args);
        String call = r.name + Arrays.toString(r.args);
        Check.holds(answer == r.answer, call + " answered " + answer + ", due is " + r.answer);
        Map<String, Long> seen = x.all();
        boolean toldCame = r.name.equals("gather") || r.name.equals("shift");
        for (String what : before.keySet()) {
            long due = before.get(what);
            if (what.equals("finding[]") && r.finding != 0) {
                due = r.finding;
            }
            if (what.equals("count[" + (10 + r.finding) + "]") && r.finding != 0) {
                due++;
            }
            if (what.equals("came[]") && toldCame && r.finding != 0) {
                due = 0;
            }
            if (r.name.equals("ask") && (what.startsWith("trace[") || what.equals("count[4]"))) {
                due = what.startsWith("trace[") ? -1 : 0;
            }
            Check.holds(seen.get(what) == due, call + ": " + what + " is " + seen.get(what) + ", due is " + due);
        }
    }

    private static void day() {
        refused(OUTSIDE, "race", 1);
        refused(UNKNOWN, "pool", 4, 0, 0, 10);
        refused(OUTSIDE, "pool", 2, 4, 0, 10);
        refused(SAME, "pool", 2, 0, 0, 10);
        refused(UNKNOWN, "twin", 0, 4, 0, 10);
        refused(OUTSIDE, "twin", 2, 2, 0, 10);
        refused(SAME, "twin", 2, 3, 0, 10);
        refused(UNKNOWN, "substitute", 4, 1);
        refused(OUTSIDE, "substitute", 2, 6);
        refused(GONE, "substitute", 2, 5);
        refused(STATE, "substitute", 1, 1);
        refused(UNKNOWN, "scratch", 4, 1);
        refused(OUTSIDE, "scratch", 2, 6);
        refused(GONE, "scratch", 2, 5);
        refused(STATE, "scratch", 1, 1);
        refused(UNKNOWN, "off", 4);
        refused(STATE, "off", 1);
        refused(STATE, "off", 0);
        refused(UNKNOWN, "place", 4, 1, 1);
        refused(OUTSIDE, "place", 1, 1, 13);
        refused(OUTSIDE, "place", 1, 6, 1);
        refused(STATE, "place", 0, 1, 2);
        refused(STATE, "place", 2, 1, 2);
        refused(GONE, "place", 2, 5, 1);
        refused(UNKNOWN, "official", 4);
        refused(STATE, "official", 0);
        refused(STATE, "official", 1);
        refused(STATE, "official", 2);
        refused(OUTSIDE, "raceAt", 0, 5);
    }

    private static void tickets() {
        refused(UNKNOWN, "sell", 6, 8, 1, 0, 0, 1);
        refused(OUTSIDE, "sell", 0, 8, 1, 0, 0, 0);
        refused(SAME, "sell", 0, 10, 1, 1, 0, 1);
        refused(GONE, "sell", 0, 8, 5, 0, 0, 1);
        refused(STATE, "sell", 0, 4, 1, 0, 0, 1);
        refused(UNKNOWN, "cancel", 13);
        refused(STATE, "cancel", 8);
        refused(STATE, "cancel", 12);
        refused(UNKNOWN, "pay", 13);
        refused(STATE, "pay", 0);
        refused(STATE, "pay", 4);
        refused(STATE, "pay", 8);
        refused(OUTSIDE, "ticket", 0, 8);
        refused(OUTSIDE, "units", 0, 6, 0, 0);
        refused(SAME, "dividend", 2, 1, 1, 0);
        refused(STATE, "dividend", 4, 1, 0, 0);
        refused(UNKNOWN, "odds", 48, 1, 2, 3);
        refused(OUTSIDE, "odds", 8, 1, 0, 0);
        refused(SAME, "odds", 8, 1, 1, 0);
        refused(GONE, "odds", 8, 1, 2, 5);
        refused(STATE, "odds", 0, 1, 2, 3);
        refused(OUTSIDE, "book", 0, 11);
        refused(UNKNOWN, "worst", 4);
        refused(STATE, "worst", 0);
        refused(GONE, "worst", 3);
        refused(UNKNOWN, "premium", 6);
    }

    private static void drawers() {
        refused(UNKNOWN, "drawer", 6, 1);
        refused(OUTSIDE, "drawer", 0, 13);
        found(SIZE, "drawer", 0, -1);
        refused(UNKNOWN, "lose", 6);
        found(NULL, "lose", 1);
        refused(UNKNOWN, "keep", 0, 0, 13);
        found(NULL, "keep", 1, 0, 1);
        found(INDEX, "keep", 0, 6, 1);
        refused(OUTSIDE, "note", 0, 0, 1L, 5);
        found(NULL, "note", 1, 0, 1L, 1);
        found(INDEX, "note", 0, 6, 1L, 1);
        refused(OUTSIDE, "coins", 0, 0, 9);
        found(NULL, "coins", 1, 0, 1);
        found(INDEX, "coins", 0, -1, 1);
        found(SIZE, "coins", 0, 0, -1);
        refused(UNKNOWN, "clear", 6, 0);
        found(NULL, "clear", 1, 0);
        found(INDEX, "clear", 0, 6);
        found(NULL, "kind", 1, 0);
        found(CAST, "read", 0, 2);
        found(NULL, "read", 0, 5);
        found(CAST, "letter", 0, 0, 0);
        found(INDEX, "letter", 0, 2, 4);
        found(NULL, "coin", 0, 5, 0, 1);
        found(CAST, "coin", 0, 0, 0, 1);
        found(INDEX, "coin", 0, 3, 3, 1);
        foundByZero(CAST, "coinAt", 0, 0, 0);
        foundByZero(INDEX, "change", 0, 3, 0, 3);
        foundByZero(ZERO, "change", 0, 3, 0, 2);
        refused(0, "change", 6, 3, 0, 2);
    }

    private static void satchels() {
        refused(UNKNOWN, "satchel", 4, 0, 1);
        refused(OUTSIDE, "satchel", 0, 6, 1);
        refused(OUTSIDE, "satchel", 0, 0, 11);
        found(SIZE, "satchel", 0, 0, -1);
        refused(UNKNOWN, "gather", 0, 0, 6, 0, 1);
        refused(OUTSIDE, "gather", 0, 0, 0, 0, 13);
        found(NULL, "gather", 0, 0, 1, 0, 1);
        found(INDEX, "gather", 0, 0, 0, 6, 1);
        found(NULL, "gather", 3, 0, 0, 0, 1);
        found(INDEX, "gather", 0, 3, 0, 0, 1);
        found(STORE, "gather", 0, 0, 0, 2, 1);
        found(STORE, "gather", 1, 0, 0, 1, 1);
        refused(UNKNOWN, "shift", 0, 0, 4, 0, 1);
        refused(OUTSIDE, "shift", 0, 0, 1, 0, 11);
        found(NULL, "shift", 0, 0, 3, 0, 1);
        found(NULL, "shift", 3, 0, 0, 0, 1);
        found(INDEX, "shift", 0, 3, 0, 0, 1);
        found(INDEX, "shift", 0, 0, 0, 3, 1);
        found(STORE, "shift", 0, 1, 1, 0, 1);
        found(INDEX, "held", 0, 3);
        found(NULL, "cash", 3);
        refused(UNKNOWN, "cash", 4);
    }

    private static void lapsAndAsks() {
        refused(UNKNOWN, "lap", 4, 1);
        foundByZero(INDEX, "lapAt", 0, 1);
        foundByZero(INDEX, "remainder", 0, 1, 1);
        refused(0, "pace", 0, 5);
        refused(UNKNOWN, "ask", 13, 0);
        refused(OUTSIDE, "ask", 0, 2);
        refused(OUTSIDE, "count", 6);
    }
}
