/** Promises 6, 11, 13, 14 and 16: rejects, refills, the bound, and exchanges. */
public final class TimeTest {
    private static final Due due = new Due();

    public static void main(String[] args) {
        rejectsAndRefills();
        toldNowCountsInTheBound();
        boundOverMachines();
        greatestNumbers();
        wrongSteps();
        exchangesByHand();
        exchangesGoOn();
        exchangesOfOneHeightAlone();
        exchangesBetweenTrips();
        noDrawsWithoutMachines();
        oneDrawForALonePart();
        due.end();
    }

    private static FeederOrders oneKind(int count) {
        FeederOrders x = new FeederOrders(1L, 5);
        x.kind(1, 0);
        x.machine(1, 6);
        for (int i = 0; i < count; i++) {
            x.part(0, 0, 0, 0);
        }
        return x;
    }

    private static void rejectsAndRefills() {
        FeederOrders x = oneKind(5);
        due.is("14: none rejected", x.run(1, 0), 10);
        x.reject(0, 1, 3);
        due.is("14: 5 * 3 / 2 rounded up is 8", x.run(1, 0), 16);
        x.reject(0, 1, 6);
        due.is("14: 5 * 6 / 5 is 6", x.run(1, 0), 12);
        x.refill(0, 5);
        due.is("13: 5 goes into 5 once", x.run(1, 0), 12 + 50);
        x.refill(0, 6);
        due.is("13: 6 goes not into 5", x.run(1, 0), 12);
        x.refill(0, 1);
        due.is("13: 1 goes into 5 five times", x.run(1, 0), 12 + 250);
        x.refill(0, 0);
        due.is("13: never empty", x.run(1, 0), 12);
    }

    private static void toldNowCountsInTheBound() {
        FeederOrders x = oneKind(5);
        x.run(1, 0);
        due.is("11: at first", x.bound(), 10);
        x.reject(0, 1, 2);
        due.is("11: rejects told since the run", x.bound(), 20);
        x.refill(0, 4);
        due.is("11: refills told since the run", x.bound(), 20 + 100);
        x.part(0, 0, 0, 0);
        due.is("11: a part told since the run", x.bound(), 20 + 100);
    }

    private static void boundOverMachines() {
        FeederOrders x = new FeederOrders(1L, 9);
        int[] nozzles = {0, 1, 2, 2, 5};
        for (int nozzle : nozzles) {
            x.kind(1, nozzle);
        }
        x.machine(1, 6);
        x.machine(2 + 4, 6);
        int[] kindsInOrder = {0, 0, 0, 0, 1, 2, 1, 3};
        for (int i = 0; i < kindsInOrder.length; i++) {
            x.part(kindsInOrder[i], 10, 10, i);
        }
        x.run(2, 0);
        due.is("11: two nozzles on machine 1", x.bound(), 8 + 20);
        due.is("18: but three changes", x.changes(1), 3);
        x.refill(0, 1);
        due.is("11: refills on machine 0", x.bound(), 8 + 150);
    }

    private static void greatestNumbers() {
        FeederOrders x = new FeederOrders(Long.MIN_VALUE, 120);
        x.kind(4, 7);
        x.machine(255, 1);
        for (int i = 0; i < 40; i++) {
            x.part(0, 100000, 100000, 10000);
        }
        x.reject(0, 999, 1000);
        x.refill(0, 1);
        long supply = 2 * 40000 + 50L * 39999;
        due.is("6: greatest time", x.run(3, 200), 40 * 200000 + supply);
        due.is("11: greatest bound", x.bound(), supply);
        due.is("16: all of one place", x.improve(200), 0);
        x.refill(0, Integer.MAX_VALUE);
        due.is("13: greatest refill", x.bound(), 80000);
    }

    private static void wrongSteps() {
        FeederOrders x = oneKind(3);
        for (int steps : new int[] {-1, 201, Integer.MAX_VALUE, Integer.MIN_VALUE}) {
            due.illegal("16: steps " + steps, () -> x.improve(steps));
        }
        due.is("16: 200 steps", x.improve(200), 0);
        due.is("16: 0 steps", x.improve(0), 0);
    }

    /** Nozzles 0, 1, 0, 1, one part a trip; parts stand in one place, so that changes alone count. */
    private static FeederOrders mixed(long seed) {
        FeederOrders x = new FeederOrders(seed, 5);
        x.kind(1, 0);
        x.kind(1, 1);
        x.machine(3, 1);
        for (int i = 0; i < 4; i++) {
            x.part(i % 2, 0, 0, 0);
        }
        return x;
    }

    private static int changesOf(int[] row) {
        int count = 0;
        for (int i = 1; i < row.length; i++) {
            count += row[i - 1] % 2 != row[i] % 2 ? 1 : 0;
        }
        return count;
    }

    private static int step(Drawn drawn, int[] row) {
        drawn.mod(1);
        int a = drawn.mod(4);
        int b = drawn.mod(4);
        int before = changesOf(row);
        swap(row, a, b);
        if (changesOf(row) < before) {
            return 1;
        }
        swap(row, a, b);
        return 0;
    }

    private static void swap(int[] row, int a, int b) {
        int kept = row[a];
        row[a] = row[b];
        row[b] = kept;
    }

    private static void dueRow(String name, FeederOrders x, int[] row) {
        for (int i = 0; i < row.length; i++) {
            due.is(name + ", order " + i, x.order(0, i), row[i]);
        }
    }

    private static void exchangesByHand() {
        for (long seed = -20; seed < 20; seed++) {
            FeederOrders x = mixed(seed);
            due.is("16: before", x.run(1, 0), 8 + 60);
            Drawn drawn = new Drawn(seed);
            int[] row = {0, 1, 2, 3};
            for (int i = 0; i < 30; i++) {
                due.is("16: seed " + seed + ", exchange " + i, x.improve(1), step(drawn, row));
                dueRow("16: seed " + seed + ", exchange " + i, x, row);
            }
            due.is("18: in the end", x.changes(0), changesOf(row));
        }
    }

    /** The draws of a later run go on where those of the calls before it ended. */
    private static void exchangesGoOn() {
        for (long seed = -20; seed < 20; seed++) {
            FeederOrders x = mixed(seed);
            x.run(1, 3);
            x.improve(2);
            int[] row = {0, 1, 2, 3};
            Drawn drawn = new Drawn(seed);
            for (int i = 0; i < 15; i++) {
                drawn.mod(4);
            }
            step(drawn, row);
            step(drawn, row);
            due.is("6: seed " + seed + ", a run with exchanges", x.run(1, 2), 8 + 20 * changesOf(row));
            dueRow("6: seed " + seed + ", a run with exchanges", x, row);
        }
    }

    /** Each nozzle's two parts would come together, but the heights keep them apart. */
    private static void exchangesOfOneHeightAlone() {
        for (long seed = -20; seed < 20; seed++) {
            FeederOrders x = new FeederOrders(seed, 5);
            x.kind(1, 0);
            x.kind(1, 1);
            x.machine(3, 1);
            for (int i = 0; i < 4; i++) {
                x.part(i % 2, 0, 0, i);
            }
            due.is("16: heights", x.run(1, 100), 8 + 60);
            due.is("16: heights", x.improve(100), 0);
            dueRow("16: heights", x, new int[] {0, 1, 2, 3});
        }
    }

    /** By x the trips are 0, 1 and 2, 3; with 0, 2 and 1, 3 the ways are shorter. */
    private static void exchangesBetweenTrips() {
        FeederOrders x = new FeederOrders(3L, 5);
        x.kind(1, 0);
        x.machine(1, 2);
        x.part(0, 0, 100, 0);
        x.part(0, 10, 0, 0);
        x.part(0, 20, 100, 0);
        x.part(0, 30, 0, 0);
        due.is("6: by x", x.run(1, 0), 100 + 100 + 10 + 100 + 100 + 30 + 8);
        due.is("16: kept", x.improve(200) > 0, true);
        due.is("16: together", x.trip(0, 0), x.trip(0, 2));
        due.is("16: together", x.trip(0, 1), x.trip(0, 3));
        due.is("6: a run begins by x again", x.run(1, 0), 448);
        due.is("6: and improves", x.run(1, 200), 100 + 20 + 100 + 10 + 20 + 30 + 8);
    }

    private static void noDrawsWithoutMachines() {
        for (long seed = -20; seed < 20; seed++) {
            FeederOrders x = mixed(seed);
            x.run(0, 100);
            x.improve(100);
            x.run(1, 2);
            int[] row = {0, 1, 2, 3};
            Drawn drawn = new Drawn(seed);
            step(drawn, row);
            step(drawn, row);
            dueRow("16: seed " + seed + ", no draws before", x, row);
        }
    }

    /** A machine with one part draws no parts, so the draws that follow come two earlier. */
    private static void oneDrawForALonePart() {
        for (long seed = -20; seed < 20; seed++) {
            FeederOrders x = new FeederOrders(seed, 5);
            x.kind(1, 0);
            x.machine(3, 1);
            x.part(0, 0, 0, 0);
            x.run(1, 5);
            x.kind(1, 1);
            x.part(1, 0, 0, 0);
            x.part(0, 0, 0, 0);
            x.part(1, 0, 0, 0);
            x.run(1, 2);
            int[] row = {0, 1, 2, 3};
            Drawn drawn = new Drawn(seed);
            for (int i = 0; i < 5; i++) {
                drawn.mod(1);
            }
            step(drawn, row);
            step(drawn, row);
            dueRow("16: seed " + seed + ", a lone part before", x, row);
        }
    }
}
