/** Promises 6 to 10, 12, 15, 17 and 18: shares, feeders, order, trips, and what is asked of them. */
public final class RunTest {
    private static final Due due = new Due();

    public static void main(String[] args) {
        wrongRuns();
        evenShares();
        firstOfEvenShares();
        sharesByNozzle();
        feeders();
        feedersWithoutRoom();
        orderByHeightAndPlace();
        leastWay();
        lowestNumbersOfEqualWays();
        fullTrips();
        trips();
        questionsBeforeARun();
        whatIsToldAfterARunWaits();
        aSmallerRunEmptiesMachines();
        lowerAndMachineOf();
        common();
        changes();
        due.end();
    }

    private static void addParts(FeederOrders x, int kind, int count) {
        for (int i = 0; i < count; i++) {
            x.part(kind, 0, 0, 0);
        }
    }

    private static void dueOrder(FeederOrders x, String name, int machine, int... parts) {
        for (int i = 0; i < parts.length; i++) {
            due.is(name + ", order " + i, x.order(machine, i), parts[i]);
        }
        due.is(name + ", order at its end", x.order(machine, parts.length), FeederOrders.NONE);
    }

    private static void wrongRuns() {
        FeederOrders x = new FeederOrders(1L, 10);
        x.kind(1, 0);
        x.machine(1, 6);
        x.part(0, 7, 3, 0);
        due.is("6: run", x.run(1, 0), 7 + 7 + 2);
        for (int machines : new int[] {-1, 4, Integer.MAX_VALUE, Integer.MIN_VALUE}) {
            due.illegal("6: machines " + machines, () -> x.run(machines, 0));
        }
        for (long steps : new long[] {-1, 201, Long.MAX_VALUE, Long.MIN_VALUE, 1L << 32}) {
            due.illegal("6: steps " + steps, () -> x.run(0, steps));
        }
        due.is("6: a wrong run changes nothing", x.order(0, 0), 0);
        due.is("6: more machines than there are", x.run(3, 200), 16);
    }

    /** 4, 3, 3, 2 parts over two machines: 4 + 2 and 3 + 3 alone are even. */
    private static void evenShares() {
        FeederOrders x = new FeederOrders(1L, 20);
        int[] amounts = {4, 3, 3, 2};
        for (int k = 0; k < 4; k++) {
            x.kind(1, 0);
            addParts(x, k, amounts[k]);
        }
        x.machine(1, 6);
        x.machine(1, 6);
        due.is("6: even shares", x.run(2, 0), 12);
        int[] homes = {0, 1, 1, 0};
        for (int k = 0; k < 4; k++) {
            due.is("6: even shares, kind " + k, x.slot(homes[k], k) != FeederOrders.NONE, true);
        }
    }

    /** Kinds of 1, 2, 1 and 1 parts over three machines: no machine needs more than 2. */
    private static void firstOfEvenShares() {
        FeederOrders x = new FeederOrders(1L, 20);
        int[] amounts = {1, 2, 1, 1};
        for (int k = 0; k < 4; k++) {
            x.kind(1, 0);
            addParts(x, k, amounts[k]);
        }
        for (int m = 0; m < 3; m++) {
            x.machine(1, 6);
        }
        x.run(3, 0);
        // Kind 0 goes to 0, kind 1 to 1 (0 would have 3), kind 2 to 0, and kind 3 to 2, the only one with room.
        int[] homes = {0, 1, 1, 0, 2};
        for (int p = 0; p < homes.length; p++) {
            due.is("6: first of even shares, part " + p, x.machineOf(p), homes[p]);
        }
    }

    private static void sharesByNozzle() {
        FeederOrders x = new FeederOrders(1L, 20);
        x.kind(1, 7);
        x.kind(1, 0);
        x.kind(1, 3);
        for (int k = 0; k < 3; k++) {
            addParts(x, k, 1);
        }
        x.machine(1, 6);
        x.machine(128 + 1, 6);
        x.run(2, 0);
        due.is("6: nozzle 7", x.machineOf(0), 1);
        due.is("6: nozzle 0", x.machineOf(1), 0);
        due.is("6: nozzle 3 that none has", x.machineOf(2), FeederOrders.NONE);
        x.run(1, 0);
        due.is("6: nozzle 7 that the first has not", x.machineOf(0), FeederOrders.NONE);
    }

    private static void feeders() {
        FeederOrders x = new FeederOrders(1L, 9);
        int[] widths = {2, 2, 1, 3, 1};
        for (int k = 0; k < 5; k++) {
            x.kind(widths[k], 0);
        }
        for (int k = 0; k < 4; k++) {
            addParts(x, k, 1);
        }
        x.machine(1, 6);
        x.fixed(3, 1);
        x.fixed(4, 5);
        x.run(1, 0);
        // 3 stands at 1 .. 3; 0 at 4, 1 at 6 (kind 4 has no parts, so its place is free), 2 at 0.
        int[] begins = {4, 6, 0, 1, FeederOrders.NONE};
        for (int k = 0; k < 5; k++) {
            due.is("7: feeder " + k, x.slot(0, k), begins[k]);
        }
        due.outOfBounds("7: machine 1", () -> x.slot(1, 0));
        due.outOfBounds("7: machine -1", () -> x.slot(-1, 0));
        due.outOfBounds("7: kind 5", () -> x.slot(0, 5));
        due.outOfBounds("7: kind -1", () -> x.slot(0, -1));
    }

    private static void feedersWithoutRoom() {
        FeederOrders x = new FeederOrders(1L, 5);
        x.kind(4, 0);
        x.kind(2, 0);
        x.kind(1, 0);
        x.machine(1, 6);
        for (int k = 0; k < 3; k++) {
            x.part(k, 10 * k, 0, 0);
        }
        due.is("7: time without the kind that has no room", x.run(1, 0), 20 + 20 + 2 + 2);
        due.is("7: first", x.slot(0, 0), 0);
        due.is("7: no room", x.slot(0, 1), FeederOrders.NONE);
        due.is("7: after one without room", x.slot(0, 2), 4);
        dueOrder(x, "7: without room", 0, 0, 2);
        due.is("15: not placed", x.machineOf(1), FeederOrders.NONE);
        due.is("9: not placed", x.trip(0, 1), FeederOrders.NONE);
        due.is("12: not placed", x.lower(0, 1) || x.lower(1, 0), false);
        due.is("11: not placed", x.bound(), 4);
    }

    /** One part a trip, so that the order is that of height, x, y, number alone. */
    private static void orderByHeightAndPlace() {
        FeederOrders x = new FeederOrders(1L, 5);
        x.kind(1, 0);
        x.machine(1, 1);
        x.part(0, 1, 1, 3);
        x.part(0, 9, 1, 2);
        x.part(0, 5, 8, 2);
        x.part(0, 5, 7, 2);
        x.part(0, 5, 8, 2);
        x.part(0, 99, 99, 1);
        x.run(1, 0);
        dueOrder(x, "8: height, x, y, number", 0, 5, 3, 2, 4, 1, 0);
        due.is("8: below 0", x.order(0, -1), FeederOrders.NONE);
        due.is("8: lowest", x.order(0, Integer.MIN_VALUE), FeederOrders.NONE);
        due.is("8: greatest", x.order(0, Integer.MAX_VALUE), FeederOrders.NONE);
        due.outOfBounds("8: machine 1", () -> x.order(1, 0));
        due.outOfBounds("8: machine -1", () -> x.order(-1, 0));
    }

    /** By x the parts zigzag in y; the least way goes up one side and down the other. */
    private static void leastWay() {
        FeederOrders x = new FeederOrders(1L, 5);
        x.kind(1, 0);
        x.machine(1, 6);
        x.part(0, 1, 50, 0);
        x.part(0, 2, 0, 0);
        x.part(0, 3, 90, 0);
        x.part(0, 4, 40, 0);
        due.is("6: least way", x.run(1, 0), 50 + 40 + 50 + 40 + 2 + 8);
        dueOrder(x, "8: least way", 0, 0, 2, 3, 1);
        x.part(0, 50, 0, 1);
        due.is("6: the higher one last", x.run(1, 0), 2 + 40 + 10 + 40 + 90 + 50 + 10);
        dueOrder(x, "8: the higher one last", 0, 1, 3, 0, 2, 4);
    }

    private static void lowestNumbersOfEqualWays() {
        FeederOrders x = new FeederOrders(1L, 5);
        x.kind(1, 0);
        x.machine(1, 6);
        x.part(0, 30, 0, 0);
        x.part(0, 10, 0, 0);
        x.part(0, 20, 0, 0);
        due.is("6: on a line", x.run(1, 0), 66);
        // 0, 2, 1 and 1, 0, 2 and 1, 2, 0 and 2, 0, 1 are of one way: part 0 goes first.
        dueOrder(x, "8: on a line", 0, 0, 2, 1);
        FeederOrders y = new FeederOrders(1L, 5);
        y.kind(1, 0);
        y.machine(1, 6);
        for (int i = 0; i < 6; i++) {
            y.part(0, 5, 5, 0);
        }
        y.run(1, 0);
        dueOrder(y, "8: in one place", 0, 0, 1, 2, 3, 4, 5);
    }

    /** Forty parts in two columns, six a trip: every trip, the last one too, is put in its own order. */
    private static void fullTrips() {
        FeederOrders x = new FeederOrders(1L, 40);
        for (int k = 0; k < 10; k++) {
            x.kind(4, k % 8);
        }
        x.machine(255, 6);
        for (int p = 0; p < 40; p++) {
            x.part(p % 10, p % 2 == 0 ? 0 : 1000, 100 * (6 - p % 6), p / 6);
        }
        x.run(1, 0);
        for (int trip = 0; trip < 6; trip++) {
            int first = 6 * trip;
            int[] places = {1, 3, 5, 0, 2, 4};
            for (int i = 0; i < 6; i++) {
                due.is("8: full trip " + trip + ", " + i, x.order(0, first + i), first + places[i]);
                due.is("9: full trip " + trip + ", " + i, x.trip(0, first + i), trip);
            }
        }
        int[] lastTrip = {37, 39, 36, 38};
        for (int i = 0; i < 4; i++) {
            due.is("8: the last trip, " + i, x.order(0, 36 + i), lastTrip[i]);
            due.is("9: the last trip, " + i, x.trip(0, lastTrip[i]), 6);
        }
        due.is("8: no more", x.order(0, 40), FeederOrders.NONE);
        for (int k = 0; k < 10; k++) {
            due.is("7: all slots taken", x.slot(0, k), 4 * k);
        }
        due.is("11: eight nozzles", x.bound(), 80 + 140);
        due.is("17: all kinds", x.common(0, 0), true);
    }

    private static void trips() {
        FeederOrders x = new FeederOrders(1L, 5);
        x.kind(1, 0);
        x.machine(1, 3);
        x.machine(0, 6);
        for (int i = 0; i < 7; i++) {
            x.part(0, 10 * i, 0, i);
        }
        due.is("6: ways of three trips", x.run(1, 0), 40 + 100 + 120 + 14);
        for (int i = 0; i < 7; i++) {
            due.is("9: trip of " + i, x.trip(0, i), i / 3);
            due.is("9: trip on another machine", x.trip(1, i), FeederOrders.NONE);
        }
        due.is("10: three trips", x.proved(), false);
        due.outOfBounds("9: machine 2", () -> x.trip(2, 0));
        due.outOfBounds("9: machine -1", () -> x.trip(-1, 0));
        due.outOfBounds("9: part 7", () -> x.trip(0, 7));
        due.outOfBounds("9: part -1", () -> x.trip(0, -1));
        x.run(0, 0);
        due.is("10: no machine", x.proved(), true);
        FeederOrders y = new FeederOrders(1L, 5);
        y.kind(1, 0);
        y.machine(1, 3);
        addParts(y, 0, 3);
        y.run(1, 0);
        due.is("10: one trip", y.proved(), true);
        addParts(y, 0, 1);
        due.is("10: the latest run had one trip", y.proved(), true);
        y.run(1, 0);
        due.is("10: two trips", y.proved(), false);
    }

    private static void questionsBeforeARun() {
        FeederOrders x = new FeederOrders(1L, 5);
        x.kind(1, 0);
        x.machine(1, 1);
        addParts(x, 0, 2);
        due.is("7: before a run", x.slot(0, 0), FeederOrders.NONE);
        due.is("8: before a run", x.order(0, 0), FeederOrders.NONE);
        due.is("9: before a run", x.trip(0, 0), FeederOrders.NONE);
        due.is("10: before a run", x.proved(), true);
        due.is("11: before a run", x.bound(), 0);
        due.is("12: before a run", x.lower(0, 1), false);
        due.is("15: before a run", x.machineOf(0), FeederOrders.NONE);
        due.is("16: before a run", x.improve(200), 0);
        due.is("17: before a run", x.common(0, 0), true);
        due.is("18: before a run", x.changes(0), 0);
    }

    private static void whatIsToldAfterARunWaits() {
        FeederOrders x = new FeederOrders(1L, 5);
        x.kind(1, 0);
        x.machine(1, 6);
        addParts(x, 0, 1);
        x.run(1, 0);
        addParts(x, 0, 1);
        x.kind(1, 0);
        addParts(x, 1, 1);
        x.machine(1, 6);
        x.fixed(0, 3);
        due.is("7: fixed later", x.slot(0, 0), 0);
        due.is("7: a later kind", x.slot(0, 1), FeederOrders.NONE);
        due.is("7: a later machine", x.slot(1, 0), FeederOrders.NONE);
        dueOrder(x, "8: a later part", 0, 0);
        due.is("15: a later part", x.machineOf(1), FeederOrders.NONE);
        due.is("11: a later part", x.bound(), 2);
        x.run(2, 0);
        due.is("7: fixed at the next run", x.slot(0, 0), 3);
        due.is("15: at the next run", x.machineOf(2), 1);
    }

    private static void aSmallerRunEmptiesMachines() {
        FeederOrders x = new FeederOrders(1L, 5);
        x.kind(1, 0);
        x.kind(1, 1);
        x.machine(1, 1);
        x.machine(2, 1);
        addParts(x, 0, 1);
        addParts(x, 1, 2);
        x.run(2, 0);
        due.is("10: two trips on machine 1", x.proved(), false);
        x.run(1, 0);
        dueOrder(x, "8: not used", 1);
        due.is("7: not used", x.slot(1, 1), FeederOrders.NONE);
        due.is("10: not used", x.proved(), true);
        due.is("11: not used", x.bound(), 2);
        due.is("15: not used", x.machineOf(1), FeederOrders.NONE);
    }

    private static void lowerAndMachineOf() {
        FeederOrders x = new FeederOrders(1L, 5);
        x.kind(1, 0);
        x.kind(1, 1);
        x.machine(1, 1);
        x.machine(2, 1);
        x.part(1, 0, 0, 0);
        x.part(0, 0, 0, 9);
        x.part(0, 0, 0, 8);
        x.run(2, 0);
        due.is("15: part 0", x.machineOf(0), 1);
        due.is("15: part 1", x.machineOf(1), 0);
        due.is("12: lower machine", x.lower(1, 0), true);
        due.is("12: higher machine", x.lower(0, 1), false);
        due.is("12: earlier", x.lower(2, 1), true);
        due.is("12: later", x.lower(1, 2), false);
        due.is("12: itself", x.lower(1, 1), false);
        due.outOfBounds("12: a", () -> x.lower(3, 0));
        due.outOfBounds("12: b", () -> x.lower(0, 3));
        due.outOfBounds("12: -1", () -> x.lower(-1, 0));
        due.outOfBounds("12: b -1", () -> x.lower(0, -1));
        due.outOfBounds("15: 3", () -> x.machineOf(3));
        due.outOfBounds("15: -1", () -> x.machineOf(-1));
    }

    private static void common() {
        FeederOrders x = new FeederOrders(1L, 5);
        x.kind(1, 0);
        x.kind(1, 1);
        x.machine(3, 1);
        x.machine(3, 1);
        x.machine(1, 1);
        addParts(x, 0, 1);
        addParts(x, 1, 1);
        x.run(3, 0);
        due.is("17: both have both", x.common(0, 1), true);
        due.is("17: kind 0 alone, which both have", x.common(0, 2), true);
        due.is("17: kind 1 on 1, which 2 has not", x.common(1, 2), false);
        due.is("17: the other way round", x.common(2, 1), false);
        due.is("17: itself", x.common(1, 1), true);
        FeederOrders y = new FeederOrders(1L, 5);
        y.kind(1, 0);
        y.machine(1, 1);
        y.machine(2, 1);
        y.machine(0, 1);
        addParts(y, 0, 1);
        y.run(3, 0);
        due.is("17: kind 0 that 1 has not", y.common(0, 1), false);
        due.is("17: kind 0 that 1 has not, the other way round", y.common(1, 0), false);
        due.is("17: no feeders", y.common(1, 2), true);
        due.outOfBounds("17: 3", () -> x.common(3, 0));
        due.outOfBounds("17: b 3", () -> x.common(0, 3));
        due.outOfBounds("17: -1", () -> x.common(-1, 0));
        due.outOfBounds("17: b -1", () -> x.common(0, -1));
    }

    private static void changes() {
        FeederOrders x = new FeederOrders(1L, 5);
        x.kind(1, 0);
        x.kind(1, 1);
        x.kind(1, 0);
        x.machine(3, 2);
        int[] kindsInOrder = {0, 1, 0, 2, 1, 1};
        for (int i = 0; i < 6; i++) {
            x.part(kindsInOrder[i], 0, 0, i);
        }
        due.is("18: time", x.run(1, 0), 12 + 60);
        due.is("18: two in trips, one between them; none between kinds of one nozzle", x.changes(0), 3);
        due.outOfBounds("18: 1", () -> x.changes(1));
        due.outOfBounds("18: -1", () -> x.changes(-1));
    }
}
