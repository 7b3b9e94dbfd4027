import java.util.ArrayList;
import java.util.Arrays;
import java.util.LinkedHashMap;
import java.util.List;
import java.util.Map;
import java.util.Set;

/** Runs of calls by dice: ToteHouse has to answer each as PlainTote does. */
public final class ModelTest {
    private static final int RUNS = 500, CALLS = 512;
    /** So many of them are kept for the results of all RACES, and for looks. */
    private static final int AT_THE_END = 210, LOOKS = 110;
    private static final Set<String> LOOKING = Set.of("raceAt", "ticket", "units", "dividend", "odds", "book",
            "worst", "premium", "kind", "read", "letter", "coinAt", "change", "held", "lapAt", "pace", "remainder",
            "ask", "trace", "count");
    private static final int[] EDGES = {-1, 0, 1, 2, 4, 5, 6, 8, 9, 10, 11, 12, 13, 48, 49, 200, 500, 501, 1000, 1001,
        -2, Integer.MIN_VALUE, Integer.MAX_VALUE};
    private static final int[] BITS = {0, Integer.MIN_VALUE, 1, 0x3F800000, 0xBF800000, 0x7F7FFFFF, 0xFF7FFFFF,
        0x7F800000, 0xFF800000, 0x7FC00000, -1, 0x42280000, 0x42293333, 0x3DCCCCCD};

    /** Each call's arguments by a letter; how often it is made. */
    private static final String[][] CALLS_BY_DICE = {
        {"race", "n", "4"}, {"pool", "rkdu", "16"}, {"twin", "rrdu", "3"}, {"substitute", "ra", "3"},
        {"scratch", "ra", "2"}, {"off", "r", "1"}, {"place", "rap", "3"}, {"official", "r", "1"},
        {"raceAt", "rw", "2"}, {"sell", "wPabcU", "6"}, {"cancel", "t", "2"}, {"pay", "t", "2"},
        {"ticket", "tw", "2"}, {"units", "Pabc", "3"}, {"dividend", "Pabc", "4"}, {"odds", "PaaA", "4"},
        {"book", "Pw", "2"}, {"rest", "", "1"}, {"unclaimed", "", "1"}, {"worst", "r", "1"}, {"worstDue", "", "1"},
        {"premium", "w", "2"}, {"drawer", "ws", "2"}, {"lose", "w", "1"}, {"keep", "wst", "8"}, {"note", "wsLk", "3"},
        {"coins", "wsk", "3"}, {"clear", "ws", "1"}, {"kind", "ws", "2"}, {"read", "ws", "2"}, {"letter", "wsk", "3"},
        {"coin", "wskv", "4"}, {"coinAt", "wsk", "2"}, {"change", "wskk", "3"}, {"satchel", "SFs", "3"},
        {"gather", "Sswss", "6"}, {"shift", "SsSsk", "6"}, {"came", "", "2"}, {"held", "Ss", "2"}, {"cash", "S", "1"},
        {"lap", "rB", "3"}, {"lapAt", "rs", "1"}, {"pace", "rk", "2"}, {"remainder", "rsB", "2"}, {"ask", "tk", "3"},
        {"trace", "k", "2"}, {"finding", "", "2"}, {"count", "w", "2"}, {"digest", "", "1"}};

    private final int seed;
    private final Dice dice;
    private final Caller tote = new Caller(new ToteHouse());
    private final Caller plain = new Caller(new PlainTote());
    private final List<String> made = new ArrayList<>();
    private final List<Integer> pools = new ArrayList<>();
    private int left = CALLS;
    private boolean wrong;

    private ModelTest(int seed) {
        this.seed = seed;
        dice = new Dice(seed);
    }

    public static void main(String[] args) {
        List<String> pot = new ArrayList<>();
        Map<String, String> forms = new LinkedHashMap<>();
        for (String[] row : CALLS_BY_DICE) {
            forms.put(row[0], row[1]);
            for (int i = 0; i < Integer.parseInt(row[2]); i++) {
                pot.add(row[0]);
            }
        }
        for (int seed = 1; seed <= RUNS; seed++) {
            new ModelTest(seed).run(pot, forms);
        }
        Check.end();
    }

    private void run(List<String> pot, Map<String, String> forms) {
        begin();
        boolean allRun = seed % 2 == 0;
        while (left > (allRun ? AT_THE_END : LOOKS) && !wrong) {
            if (dice.once(40)) {
                finish(dice.below(12));
            } else if (dice.once(4)) {
                sellWell();
            } else {
                dare(pot, forms);
            }
        }
        for (int race = 0; race < 12 && allRun; race++) {
            finish(race);
        }
        look(pot, forms);
    }

    private void dare(List<String> pot, Map<String, String> forms) {
        String name = pot.get(dice.below(pot.size()));
        call(name, arguments(forms.get(name)));
    }

    private void look(List<String> pot, Map<String, String> forms) {
        for (String name : new String[] {"digest", "rest", "unclaimed", "worstDue", "came", "finding"}) {
            call(name);
        }
        List<String> looks = new ArrayList<>(pot);
        looks.removeIf(name -> !LOOKING.contains(name));
        while (left > 0 && !wrong) {
            dare(looks, forms);
        }
    }

    private void begin() {
        int races = dice.from(1, 4);
        for (int r = 0; r < races; r++) {
            call("race", dice.from(2, 12));
            for (int kind = 0; kind < 4; kind++) {
                if (!dice.once(5)) {
                    int unit = 10 * dice.from(1, dice.once(3) ? 100 : 5);
                    call("pool", r, kind, dice.once(3) ? 0 : dice.from(0, 500), unit);
                }
            }
        }
        call("twin", 0, races - 1, dice.from(0, 200), 10);
        for (int w = 0; w < 3; w++) {
            call("drawer", w, dice.from(0, 12));
            call("satchel", w, dice.from(0, 5), dice.from(0, 10));
        }
    }

    /** A TICKET whose RUNNERS are few, so that several are for the same. */
    private void sellWell() {
        if (pools.isEmpty()) {
            return;
        }
        int pool = pools.get(dice.below(pools.size()));
        int kind = pool == 48 ? 4 : pool % 4;
        int most = dice.once(3) ? 12 : 4;
        int b = kind >= 2 ? dice.from(1, most) : 0;
        int c = kind == 3 ? dice.from(1, most) : 0;
        call("sell", dice.below(6), pool, dice.from(1, most), b, c, dice.from(1, dice.once(4) ? 1000 : 12));
    }

    /** A RACE is OFF and gets POSITIONS, mostly RIGHT ones with dead heats. */
    private void finish(int race) {
        int n = (int) plain.call("raceAt", race, 1);
        call("off", race);
        List<Integer> order = new ArrayList<>();
        for (int i = 1; i <= n; i++) {
            if (plain.call("raceAt", race, 10 + i) >= 0) {
                order.add(dice.below(order.size() + 1), i);
            }
        }
        int placed = dice.once(3) ? order.size() : Math.min(order.size(), dice.from(3, 5));
        int position = 0;
        for (int k = 0; k < placed; k++) {
            position = k > 0 && dice.once(3) ? position : k + 1;
            call("place", race, order.get(k), position);
        }
        if (dice.once(10)) {
            call("place", race, dice.from(1, 12), dice.from(0, 12));
        }
        call("official", race);
    }

    private Object[] arguments(String form) {
        Object[] args = new Object[form.length()];
        for (int i = 0; i < args.length; i++) {
            char c = form.charAt(i);
            if (c == 'L') {
                args[i] = ((long) dice.any() << 32) ^ dice.any();
            } else {
                args[i] = dice.once(25) ? EDGES[dice.below(EDGES.length)] : argument(c);
            }
        }
        return args;
    }

    private int argument(char form) {
        switch (form) {
            case 'n': return dice.from(1, 13);
            case 'r': return dice.below(6);
            case 'k': return dice.below(5);
            case 'd': return dice.from(0, 500);
            case 'u': return 10 * dice.from(1, 100);
            case 'a': return dice.from(1, 6);
            case 'A': return dice.from(0, 6);
            case 'b': return dice.once(2) ? 0 : dice.from(1, 6);
            case 'c': return dice.once(2) ? 0 : dice.from(1, 6);
            case 'p': return dice.from(0, 6);
            case 'w': return dice.below(dice.once(3) ? 17 : 4);
            case 'P': return pools.isEmpty() ? 0 : pools.get(dice.below(pools.size()));
            case 'U': return dice.from(1, 1000);
            case 't': return dice.below((int) plain.call("count", 2) + 1);
            case 's': return dice.once(4) ? dice.below(13) : dice.below(4);
            case 'v': return dice.once(3) ? EDGES[dice.below(EDGES.length)] : dice.from(-9, 9);
            case 'S': return dice.below(4);
            case 'F': return dice.below(6);
            case 'B': return dice.once(3) ? dice.any() : BITS[dice.below(BITS.length)];
            default: throw new IllegalArgumentException(String.valueOf(form));
        }
    }

    private void call(String name, Object... args) {
        if (left <= 0 || wrong) {
            return;
        }
        left--;
        long due = plain.call(name, args);
        long got = tote.call(name, args);
        made.add(name + Arrays.toString(args) + " -> " + due);
        if ((name.equals("pool") || name.equals("twin")) && due >= 0) {
            pools.add((int) due);
        }
        if (got != due) {
            tell(name + Arrays.toString(args) + " answered " + got + ", due is " + due);
        }
    }

    private void tell(String words) {
        wrong = true;
        Check.tell("seed " + seed + ": " + words + "\n  behind " + String.join("\n  ", made));
    }
}
