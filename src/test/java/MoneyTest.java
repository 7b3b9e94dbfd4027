/** What WINS and how a POOL is SETTLED: promises 9, 13, 14, 16, 18, 19, 20 and 10's CARRIED IN. */
public final class MoneyTest {
    private static final int LIVE = 0, REFUNDED = 2;

    private static void due(long got, long want) {
        Check.due(got, want);
    }

    public static void main(String[] args) {
        win();
        winRefunded();
        place();
        placeByHowMany();
        placeAtACost();
        pair();
        order();
        orderCarried();
        orderCarriedPastOthers();
        theDouble();
        fewRunners();
        unclaimed();
        Check.end();
    }

    private static void figures(ToteHouse x, int pool, int... figures) {
        for (int what = 0; what < figures.length; what++) {
            due(x.book(pool, what), figures[what]);
        }
    }

    private static void win() {
        ToteHouse x = new ToteHouse();
        x.race(4);
        x.pool(0, 0, 333, 20);
        x.sell(0, 0, 1, 0, 0, 3);
        x.sell(0, 0, 1, 0, 0, 4);
        x.sell(0, 0, 2, 0, 0, 1);
        x.sell(0, 0, 3, 0, 0, 11);
        x.sell(0, 0, 4, 0, 0, 2);
        x.cancel(4);
        due(Given.run(x, 0, 1, 1, 3), 1);
        // GROSS 380, 126 DEDUCTED, NET 254: 127 for each of 7 UNITS and 1 UNIT.
        due(x.dividend(0, 1, 0, 0), 10);
        due(x.dividend(0, 2, 0, 0), 120);
        due(x.dividend(0, 3, 0, 0), 0);
        due(x.pay(0), 30);
        figures(x, 0, 420, 40, 0, 126, 0, 0, 64, 0, 190, 30, 1);
        due(x.ticket(1, 7), 40);
        due(x.ticket(4, 7), 0);
        due(x.ticket(4, 5), 1);
    }

    private static void winRefunded() {
        ToteHouse x = new ToteHouse();
        x.race(4);
        x.pool(0, 0, 500, 10);
        x.sell(0, 0, 1, 0, 0, 3);
        x.sell(0, 0, 2, 0, 0, 4);
        x.sell(0, 0, 3, 0, 0, 5);
        x.cancel(2);
        due(Given.run(x, 0, 2, 3, 1), 1);
        figures(x, 0, 120, 50, 70, 0, 0, 0, 0, 0, 0, 0, 1);
        due(x.ticket(0, 5), REFUNDED);
        due(x.ticket(2, 5), 1);
        due(x.dividend(0, 3, 0, 0), 0);
        due(x.pay(0), ToteHouse.STATE);
        due(x.rest(), 0);
        due(x.count(3), 0);
        due(x.count(5), 0);
    }

    private static void place() {
        ToteHouse x = new ToteHouse();
        x.race(8);
        x.pool(0, 1, 100, 10);
        x.sell(0, 1, 1, 0, 0, 2);
        x.sell(0, 1, 2, 0, 0, 3);
        x.sell(0, 1, 3, 0, 0, 1);
        x.sell(0, 1, 4, 0, 0, 50);
        // NET 504, GAIN 444: 148 for each of three.
        Given.run(x, 0, 1, 2, 3, 4);
        due(x.dividend(1, 1, 0, 0), 80);
        due(x.dividend(1, 2, 0, 0), 50);
        due(x.dividend(1, 3, 0, 0), 150);
        due(x.dividend(1, 4, 0, 0), 0);
        figures(x, 1, 560, 0, 0, 56, 0, 0, 44, 0, 460, 0, 1);
    }

    private static void placeByHowMany() {
        int[][] heats = {{1, 2, 2, 4}, {1, 1, 3, 4}, {1, 2, 3, 3}, {1, 1, 1, 4}, {1, 1, 1, 1}};
        int[][] withSeven = {{1, 1, 1, 0}, {1, 1, 0, 0}, {1, 1, 0, 0}, {1, 1, 1, 0}, {1, 1, 1, 1}};
        int[][] withEight = {{1, 1, 1, 0}, {1, 1, 1, 0}, {1, 1, 1, 1}, {1, 1, 1, 0}, {1, 1, 1, 1}};
        for (int h = 0; h < heats.length; h++) {
            winners(8, heats[h], withEight[h]);
            winners(12, heats[h], withEight[h]);
            winners(7, heats[h], withSeven[h]);
            winners(5, heats[h], withSeven[h]);
            winners(4, heats[h], new int[] {0, 0, 0, 0});
        }
    }

    private static void winners(int runners, int[] positions, int[] wins) {
        ToteHouse x = Given.race(12);
        for (int i = 12; i > runners; i--) {
            x.scratch(0, i);
        }
        for (int i = 1; i <= 4; i++) {
            x.sell(0, 1, i, 0, 0, 1);
        }
        Given.run(x, 0, positions);
        for (int i = 1; i <= 4; i++) {
            due(x.dividend(1, i, 0, 0) > 0 ? 1 : 0, wins[i - 1]);
            due(x.ticket(i - 1, 5), runners < 5 ? REFUNDED : LIVE);
        }
    }

    private static void placeAtACost() {
        ToteHouse x = new ToteHouse();
        x.race(5);
        x.pool(0, 1, 500, 30);
        x.sell(0, 1, 1, 0, 0, 2);
        x.sell(0, 1, 2, 0, 0, 3);
        x.sell(0, 1, 3, 0, 0, 4);
        Given.run(x, 0, 1, 2, 3);
        // NET 135 for STAKES of 150.
        due(x.dividend(1, 1, 0, 0), 30);
        due(x.dividend(1, 2, 0, 0), 30);
        figures(x, 1, 270, 0, 0, 135, 0, 0, 0, 15, 150, 0, 1);
        // GAIN 0 is not below 0.
        ToteHouse y = new ToteHouse();
        y.race(5);
        y.pool(0, 1, 500, 30);
        y.sell(0, 1, 1, 0, 0, 2);
        y.sell(0, 1, 3, 0, 0, 2);
        Given.run(y, 0, 1, 2, 3);
        due(y.dividend(1, 1, 0, 0), 30);
        figures(y, 1, 120, 0, 0, 60, 0, 0, 0, 0, 60, 0, 1);
    }

    private static void pair() {
        int[][] heats = {{1, 2, 3, 4}, {1, 1, 3, 4}, {1, 2, 2, 4}, {1, 1, 1, 4}, {2, 1, 2, 2}};
        int[][][] wins = {{{1, 2}}, {{1, 2}}, {{1, 2}, {1, 3}}, {{1, 2}, {1, 3}, {2, 3}}, {{1, 2}, {2, 3}, {2, 4}}};
        for (int h = 0; h < heats.length; h++) {
            ToteHouse x = Given.race(4);
            for (int a = 1; a <= 4; a++) {
                for (int b = a + 1; b <= 4; b++) {
                    x.sell(0, 2, b, a, 0, 1);
                }
            }
            Given.run(x, 0, heats[h]);
            int sum = 0;
            for (int[] row : wins[h]) {
                due(x.dividend(2, row[0], row[1], 0), 60 / wins[h].length);
                due(x.dividend(2, row[1], row[0], 0), 60 / wins[h].length);
                sum += 60 / wins[h].length;
            }
            due(x.book(2, 8), sum);
            due(x.book(2, 6), 0);
        }
    }

    private static void order() {
        int[][] heats = {{1, 2, 3, 4}, {1, 1, 3, 4}, {1, 2, 2, 4}, {1, 2, 3, 3}, {1, 1, 1, 4}, {1, 1, 1, 1},
            {1, 2, 2, 2}};
        int[] rows = {1, 2, 2, 2, 6, 24, 6};
        for (int h = 0; h < heats.length; h++) {
            ToteHouse x = new ToteHouse();
            x.race(5);
            x.pool(0, 3, 0, 1000);
            for (int a = 1; a <= 5; a++) {
                for (int b = 1; b <= 5; b++) {
                    for (int c = 1; c <= 5; c++) {
                        x.sell(0, 3, a, b, c, 1);
                    }
                }
            }
            due(x.count(2), 60);
            Given.run(x, 0, heats[h]);
            int won = 0;
            for (int t = 0; t < 60; t++) {
                int[] row = {x.ticket(t, 1), x.ticket(t, 2), x.ticket(t, 3)};
                int[] p = new int[3];
                for (int i = 0; i < 3; i++) {
                    p[i] = row[i] == 5 ? 99 : heats[h][row[i] - 1];
                }
                boolean wins = p[0] <= p[1] && p[1] <= p[2] && p[2] < 99 && noneAhead(row, heats[h], p[2]);
                int dueToIt = x.ticket(t, 7);
                due(dueToIt, wins ? 60000 / rows[h] : 0);
                won += dueToIt > 0 ? 1 : 0;
            }
            due(won, rows[h]);
        }
    }

    private static boolean noneAhead(int[] row, int[] positions, int last) {
        for (int i = 1; i <= positions.length; i++) {
            boolean in = row[0] == i || row[1] == i || row[2] == i;
            if (!in && positions[i - 1] < last) {
                return false;
            }
        }
        return true;
    }

    private static void orderCarried() {
        ToteHouse x = new ToteHouse();
        for (int i = 0; i < 3; i++) {
            x.race(4);
            x.pool(i, 3, 100, 10);
        }
        x.sell(0, 3, 1, 2, 3, 10);
        x.sell(0, 3, 1, 2, 3, 10);
        x.cancel(1);
        Given.run(x, 0, 3, 2, 1);
        figures(x, 3, 200, 100, 0, 10, 0, 90, 0, 0, 0, 0, 1);
        due(x.ticket(0, 5), LIVE);
        due(x.dividend(3, 1, 2, 3), 0);
        due(x.raceAt(1, 4), 90);
        due(x.book(7, 4), 90);
        due(x.book(7, 10), 0);
        due(x.pay(0), 0);
        due(x.ticket(0, 5), 3);
        // NET has what was CARRIED IN, and it is not DEDUCTED from; odds() and worst() know it.
        x.sell(0, 7, 1, 2, 3, 1);
        due(x.odds(7, 1, 2, 3), 90);
        due(x.worst(1), 10203);
        due(x.worstDue(), 90);
        x.sell(0, 7, 1, 2, 4, 1);
        Given.run(x, 1, 1, 2, 3, 3);
        // 20 less 2 and 90: 54 for each.
        due(x.dividend(7, 1, 2, 3), 50);
        due(x.dividend(7, 1, 2, 4), 50);
        figures(x, 7, 20, 0, 0, 2, 90, 0, 8, 0, 100, 0, 1);
        due(x.raceAt(1, 4), 90);
        due(x.raceAt(2, 4), 0);
        // Without TICKETS an ORDER has no TAKERS, too.
        Given.run(x, 2, 1, 2, 3);
        due(x.book(11, 5), 0);
        due(x.rest(), 0);
    }

    private static void orderCarriedPastOthers() {
        ToteHouse x = new ToteHouse();
        for (int i = 0; i < 5; i++) {
            x.race(3);
            if (i != 1) {
                x.pool(i, 3, 0, 10);
            } else {
                x.pool(i, 2, 0, 10);
            }
        }
        x.sell(0, 3, 1, 2, 3, 5);
        x.sell(0, 15, 1, 2, 3, 7);
        // RACE 1 has none, RACE 2 is OFFICIAL, RACE 3 OFF.
        Given.run(x, 2, 1, 2, 3);
        x.off(3);
        Given.run(x, 0, 3, 2, 1);
        due(x.raceAt(1, 4), 0);
        due(x.raceAt(2, 4), 0);
        due(x.raceAt(3, 4), 50);
        due(x.raceAt(4, 4), 0);
        Given.run(x, 3, 3, 2, 1);
        due(x.book(15, 5), 120);
        due(x.raceAt(4, 4), 120);
        // VOID: what was CARRIED IN goes on, TICKETS are REFUNDED.
        x.sell(0, 19, 1, 2, 3, 1);
        x.scratch(4, 3);
        Given.run(x, 4, 1, 2);
        figures(x, 19, 10, 0, 10, 0, 120, 120, 0, 0, 0, 0, 1);
        due(x.rest(), 120);
        // Nothing goes back to a RACE ahead; what comes in twice adds up.
        ToteHouse y = new ToteHouse();
        for (int i = 0; i < 3; i++) {
            y.race(3);
            y.pool(i, 3, 500, 10);
        }
        y.sell(0, 3, 1, 2, 3, 1);
        y.sell(0, 7, 1, 2, 3, 2);
        y.sell(0, 11, 1, 2, 3, 4);
        Given.run(y, 1, 3, 2, 1);
        Given.run(y, 0, 3, 2, 1);
        due(y.raceAt(2, 4), 15);
        Given.run(y, 2, 3, 2, 1);
        due(y.rest(), 35);
        due(y.count(5), 35);
    }

    private static void theDouble() {
        ToteHouse x = new ToteHouse();
        x.race(3);
        x.race(3);
        x.twin(0, 1, 100, 10);
        x.sell(0, 48, 1, 1, 0, 4);
        x.sell(0, 48, 1, 2, 0, 3);
        x.sell(0, 48, 2, 1, 0, 2);
        x.sell(0, 48, 3, 1, 0, 10);
        x.sell(0, 48, 1, 3, 0, 1);
        x.sell(0, 48, 2, 2, 0, 5);
        x.cancel(5);
        due(Given.run(x, 1, 1, 1, 3), 0);
        due(x.book(48, 10), 0);
        due(Given.run(x, 0, 1, 1, 3), 1);
        // NET 180: 60 for each of (1, 1), (1, 2), (2, 1); (2, 2) has no LIVE UNITS.
        due(x.dividend(48, 1, 1, 0), 10);
        due(x.dividend(48, 1, 2, 0), 20);
        due(x.dividend(48, 2, 1, 0), 30);
        due(x.dividend(48, 2, 2, 0), 0);
        due(x.dividend(48, 3, 1, 0), 0);
        due(x.dividend(48, 1, 3, 0), 0);
        due(x.pay(1), 60);
        figures(x, 48, 250, 50, 0, 20, 0, 0, 20, 0, 160, 60, 1);
        due(x.unclaimed(), 100);
    }

    private static void fewRunners() {
        ToteHouse x = Given.race(3);
        x.sell(0, 0, 1, 0, 0, 1);
        x.sell(0, 2, 1, 2, 0, 1);
        x.sell(0, 2, 1, 3, 0, 1);
        x.scratch(0, 3);
        due(Given.run(x, 0, 1, 2), 4);
        due(x.ticket(0, 7), 10);
        due(x.ticket(1, 7), 10);
        ToteHouse y = Given.race(3);
        y.sell(0, 0, 1, 0, 0, 1);
        y.sell(0, 3, 1, 2, 3, 1);
        y.scratch(0, 3);
        y.scratch(0, 2);
        due(Given.run(y, 0, 1), 4);
        due(y.dividend(0, 1, 0, 0), 10);
        due(y.book(3, 10), 1);
        due(y.book(3, 5), 0);
    }

    private static void unclaimed() {
        ToteHouse x = Given.tickets();
        due(x.unclaimed(), 0);
        Given.run(x, 0, 1, 2, 3);
        due(x.unclaimed(), 160);
        x.pay(2);
        due(x.unclaimed(), 120);
        Given.run(x, 1, 1, 2, 3);
        due(x.unclaimed(), 160);
        for (int t = 0; t < 5; t++) {
            x.pay(t);
        }
        due(x.unclaimed(), 0);
        due(x.rest(), 0);
    }
}
