/** Boundary cases of promises 6 to 12 and 15 to 18: runs, exchanges, and what is asked of the latest run. */
final class RunEdges {
    private static final int NONE = FeederOrders.NONE;
    private static final int[] WILD = {Integer.MIN_VALUE, Integer.MIN_VALUE + 1, -1000, Integer.MAX_VALUE};

    private RunEdges() { }

    static void tell(Edges edges) {
        edges.sentence("Promise 6", "A RUN, and so many EXCHANGES (0 .. 200):", RunEdges::runSteps);
        edges.sentence("Promise 6", "the greatest TIME of a machine.", RunEdges::greatestTime);
        edges.sentence("Promise 6", "IllegalArgumentException, when machines is not 0 .. 3,",
                RunEdges::runOfWrongMachines);
        edges.sentence("Promise 6", "or steps not so.", RunEdges::runOfWrongSteps);
        edges.sentence("Promise 7", "The slot at which a KIND's FEEDER begins on a machine, after the latest RUN;",
                RunEdges::slotAfterRun);
        edges.sentence("Promise 7", "NONE, when it is not there.", RunEdges::slotNotThere);
        edges.sentence("Promise 7", "IndexOutOfBoundsException, when there is no such machine, or KIND.",
                RunEdges::slotOfNone);
        edges.sentence("Promise 8", "The k-th part in a machine's ORDER;", RunEdges::orderEnds);
        edges.sentence("Promise 8", "NONE, when there are not so many (or k is below 0).", RunEdges::orderBeyond);
        edges.sentence("Promise 8", "IndexOutOfBoundsException, when there is no such machine.",
                RunEdges::orderOfNone);
        edges.sentence("Promise 9", "The TRIP, from 0, in which a machine places a part;", RunEdges::tripNumbers);
        edges.sentence("Promise 9", "NONE, when it doesn't.", RunEdges::tripNotPlaced);
        edges.sentence("Promise 9", "IndexOutOfBoundsException, when there is no such machine, or part.",
                RunEdges::tripOfNone);
        tellBounds(edges);
        tellPlaces(edges);
        tellImprove(edges);
        tellNozzles(edges);
    }

    private static void tellBounds(Edges edges) {
        edges.sentence("Promise 10", "Whether every machine of the latest RUN has one TRIP at most.",
                RunEdges::provedTrips);
        edges.sentence("Promise 10", "(True without any.)", RunEdges::provedWithout);
        edges.sentence("Promise 11", "The greatest, over machines, of:", RunEdges::boundOverMachines);
        edges.sentence("Promise 11", "2 for each part, REJECTS and REFILLS as above,", RunEdges::boundOfSupply);
        edges.sentence("Promise 11", "and 20 for each different NOZZLE that it needs but one.",
                RunEdges::boundOfNozzles);
    }

    private static void tellPlaces(Edges edges) {
        edges.sentence("Promise 12", "Whether part a is placed ahead of b: on a lower machine, or earlier on the"
                + " same;", RunEdges::lowerPlaces);
        edges.sentence("Promise 12", "false when one is not placed.", RunEdges::lowerNotPlaced);
        edges.sentence("Promise 12", "IndexOutOfBoundsException, when there are no such parts.",
                RunEdges::lowerOfNone);
        edges.sentence("Promise 15", "The machine that places a part;", RunEdges::machineOfPlaced);
        edges.sentence("Promise 15", "NONE without.", RunEdges::machineOfNotPlaced);
        edges.sentence("Promise 15", "IndexOutOfBoundsException, when there is no such part.",
                RunEdges::machineOfNone);
    }

    private static void tellImprove(Edges edges) {
        edges.sentence("Promise 16", "So many EXCHANGES more (0 .. 200), s going on:", RunEdges::improveGoesOn);
        edges.sentence("Promise 16", "how many were kept.", RunEdges::improveKept);
        edges.sentence("Promise 16", "IllegalArgumentException, when steps are not so.",
                RunEdges::improveOfWrongSteps);
    }

    private static void tellNozzles(Edges edges) {
        edges.sentence("Promise 17", "Whether each KIND of which one of two machines has a FEEDER needs a NOZZLE that"
                + " both have.", RunEdges::commonNozzles);
        edges.sentence("Promise 17", "IndexOutOfBoundsException, when there are no such machines.",
                RunEdges::commonOfNone);
        edges.sentence("Promise 18", "How many CHANGES there are in a machine's ORDER.", RunEdges::changesInOrder);
        edges.sentence("Promise 18", "IndexOutOfBoundsException, when there is no such machine.",
                RunEdges::changesOfNone);
    }

    /** Eight parts of two nozzles by turns in one place, one a trip. */
    private static FeederOrders mixed(long seed) {
        FeederOrders x = Lines.oneMachine(seed, 1, 0, 1);
        for (int p = 0; p < 8; p++) {
            x.part(p % 2, 0, 0, 0);
        }
        return x;
    }

    private static NozzleRow mixedRow() {
        NozzleRow row = new NozzleRow();
        for (int p = 0; p < 8; p++) {
            row.add(p % 2, 0);
        }
        return row;
    }

    private static int exchange(NozzleRow row, Drawn drawn, int steps) {
        int kept = 0;
        for (int i = 0; i < steps; i++) {
            drawn.mod(1);
            kept += row.exchange(drawn);
        }
        return kept;
    }

    private static void runSteps(Due due) {
        for (long seed = 0; seed < 20; seed++) {
            for (int steps : new int[] {0, 1, 2, 199, 200}) {
                FeederOrders x = mixed(seed);
                NozzleRow row = mixedRow();
                Drawn drawn = new Drawn(seed);
                exchange(row, drawn, steps);
                due.is(steps + " steps, seed " + seed, x.run(1, steps), 16 + 20 * row.changes());
                due.is(steps + " steps, seed " + seed, Lines.order(x, 0), row.toString());
                NozzleRow anew = mixedRow();
                exchange(anew, drawn, 1);
                x.run(1, 1);
                due.is("a later run begins by height, x, y and number", Lines.order(x, 0), anew.toString());
            }
        }
    }

    /** Machine 0 has nozzle 0, machine 1 has nozzle 1, so that the kinds' parts tell the times. */
    private static FeederOrders twoMachines() {
        FeederOrders x = new FeederOrders(1L, 10);
        x.kind(1, 0);
        x.kind(1, 1);
        x.machine(1, 6);
        x.machine(2, 6);
        return x;
    }

    private static void greatestTime(Due due) {
        FeederOrders x = twoMachines();
        due.is("no machine", x.run(0, 200), 0);
        due.is("no parts", x.run(2, 200), 0);
        x.part(1, 10, 0, 0);
        due.is("the second has one part, the first none", x.run(2, 0), 22);
        due.is("the first alone has none", x.run(1, 0), 0);
        x.part(0, 10, 0, 0);
        due.is("both alike", x.run(2, 0), 22);
        x.part(0, 0, 0, 0);
        due.is("the first has one part more", x.run(2, 0), 24);
        x.refill(1, 1);
        x.reject(1, 1, 2);
        due.is("the second has a reject and a refill", x.run(2, 0), 24 + 50);
    }

    private static void runOfWrongMachines(Due due) {
        FeederOrders x = Lines.settled();
        for (int machines : new int[] {-1, 4, 5}) {
            due.illegal("machines " + machines, () -> x.run(machines, 0));
            due.illegal("machines " + machines + " and exchanges", () -> x.run(machines, 200));
        }
        for (int wild : WILD) {
            due.illegal("machines " + wild, () -> x.run(wild, 1));
        }
        due.is("afterwards", Lines.answers(x), Lines.answers(Lines.settled()));
        FeederOrders empty = new FeederOrders(1L, 10);
        due.illegal("without machines", () -> empty.run(4, 0));
        due.is("3 without machines", empty.run(3, 0), 0);
    }

    private static void runOfWrongSteps(Due due) {
        FeederOrders x = Lines.settled();
        for (long steps : new long[] {-1, 201, 202, 1L << 32, (1L << 32) + 5, -1L << 32, Long.MAX_VALUE,
                Long.MIN_VALUE}) {
            for (int machines = 0; machines <= 3; machines++) {
                int told = machines;
                due.illegal("steps " + steps + ", machines " + told, () -> x.run(told, steps));
            }
        }
        due.is("afterwards", Lines.answers(x), Lines.answers(Lines.settled()));
    }

    private static void slotAfterRun(Due due) {
        FeederOrders x = new FeederOrders(1L, 10);
        x.machine(1, 6);
        Lines.addKinds(x, 1, 1);
        due.is("before any run", Lines.slots(x, 0, 2), "-1 -1");
        x.run(1, 0);
        due.is("the lowest slots", Lines.slots(x, 0, 2), "0 1");
        x.fixed(0, 9);
        due.is("fixed after the run", Lines.slots(x, 0, 2), "0 1");
        due.illegal("a refused run", () -> x.run(1, 201));
        due.is("after a refused run", Lines.slots(x, 0, 2), "0 1");
        x.run(1, 0);
        due.is("after the next run", Lines.slots(x, 0, 2), "9 0");
        x.run(0, 0);
        due.is("after a run of no machine", Lines.slots(x, 0, 2), "-1 -1");
        FeederOrders full = Lines.full();
        due.is("ten kinds, the first machine", Lines.slots(full, 0, 10), "0 4 8 -1 -1 -1 -1 -1 -1 -1");
        due.is("ten kinds, the second machine", Lines.slots(full, 1, 10), "-1 -1 -1 0 4 8 -1 -1 -1 -1");
        due.is("ten kinds, the third machine", Lines.slots(full, 2, 10), "-1 -1 -1 -1 -1 -1 0 -1 4 8");
    }

    private static void slotNotThere(Due due) {
        FeederOrders x = new FeederOrders(1L, 3);
        x.kind(1, 0);
        x.kind(1, 1);
        x.kind(1, 2);
        x.kind(4, 0);
        x.machine(1, 6);
        x.machine(2, 6);
        Lines.addParts(x, 1, 1);
        Lines.addParts(x, 2, 1);
        Lines.addParts(x, 3, 1);
        x.fixed(0, 0);
        x.run(2, 0);
        due.is("fixed, but without parts; elsewhere; no machine has its nozzle; too wide", Lines.slots(x, 0, 4),
                "-1 -1 -1 -1");
        due.is("on the other machine", Lines.slots(x, 1, 4), "-1 0 -1 -1");
        x.kind(1, 0);
        x.machine(255, 6);
        due.is("a kind told later", x.slot(0, 4), NONE);
        due.is("a machine told later", x.slot(2, 1), NONE);
    }

    private static void slotOfNone(Due due) {
        FeederOrders x = Lines.settled();
        for (int machine : new int[] {-1, 2, 3}) {
            due.outOfBounds("machine " + machine, () -> x.slot(machine, 0));
        }
        for (int kind : new int[] {-1, 3, 9, 10}) {
            due.outOfBounds("kind " + kind, () -> x.slot(0, kind));
        }
        for (int wild : WILD) {
            due.outOfBounds("machine " + wild, () -> x.slot(wild, 0));
            due.outOfBounds("kind " + wild, () -> x.slot(0, wild));
        }
        due.is("afterwards", Lines.answers(x), Lines.answers(Lines.settled()));
    }

    private static void orderEnds(Due due) {
        FeederOrders x = Lines.oneMachine(1L, 6, 0);
        for (int p = 0; p < 40; p++) {
            x.part(0, 0, 0, 100 - p);
        }
        x.run(1, 0);
        due.is("the first of forty", x.order(0, 0), 39);
        due.is("the last of forty", x.order(0, 39), 0);
        FeederOrders one = Lines.oneMachine(1L, 6, 0);
        Lines.addParts(one, 0, 1);
        one.run(1, 0);
        due.is("the only one", one.order(0, 0), 0);
        FeederOrders full = Lines.full();
        due.is("the first machine of three", Lines.order(full, 0), "0 1 2 10 11 12 20 21 22 30 31 32");
        due.is("the last machine of three", Lines.order(full, 2), "6 8 9 16 18 19 26 28 29 36 38 39");
    }

    private static void orderBeyond(Due due) {
        FeederOrders x = Lines.oneMachine(1L, 6, 0);
        Lines.addParts(x, 0, 1);
        due.is("before any run", x.order(0, 0), NONE);
        x.run(1, 0);
        Lines.addParts(x, 0, 39);
        for (int k : new int[] {-1, 1, 2, 39, 40, Integer.MIN_VALUE, Integer.MAX_VALUE}) {
            due.is("k " + k + " of one", x.order(0, k), NONE);
        }
        x.run(1, 0);
        for (int k : new int[] {-1, 40, 41, Integer.MIN_VALUE, Integer.MAX_VALUE}) {
            due.is("k " + k + " of forty", x.order(0, k), NONE);
        }
        x.run(0, 0);
        due.is("a machine not used", x.order(0, 0), NONE);
    }

    private static void orderOfNone(Due due) {
        FeederOrders x = Lines.settled();
        for (int machine : new int[] {-1, 2, 3}) {
            due.outOfBounds("machine " + machine, () -> x.order(machine, 0));
            due.outOfBounds("machine " + machine + " and k below 0", () -> x.order(machine, -1));
        }
        for (int wild : WILD) {
            due.outOfBounds("machine " + wild, () -> x.order(wild, 0));
        }
        due.is("afterwards", Lines.answers(x), Lines.answers(Lines.settled()));
    }

    private static void tripNumbers(Due due) {
        FeederOrders x = Lines.oneMachine(1L, 1, 0);
        for (int p = 0; p < 40; p++) {
            x.part(0, 0, 0, p);
        }
        x.run(1, 0);
        due.is("the first of forty trips", x.trip(0, 0), 0);
        due.is("the last of forty trips", x.trip(0, 39), 39);
        FeederOrders six = Lines.oneMachine(1L, 6, 0);
        for (int p = 0; p < 13; p++) {
            six.part(0, 0, 0, p);
        }
        six.run(1, 0);
        due.is("six a trip", Lines.trips(six, 0, 13), "0 0 0 0 0 0 1 1 1 1 1 1 2");
    }

    private static void tripNotPlaced(Due due) {
        FeederOrders x = twoMachines();
        x.kind(1, 2);
        for (int kind = 0; kind < 3; kind++) {
            Lines.addParts(x, kind, 1);
        }
        due.is("before any run", Lines.trips(x, 0, 3), "-1 -1 -1");
        x.run(2, 0);
        Lines.addParts(x, 0, 1);
        due.is("on the other; on none; told later", Lines.trips(x, 0, 4), "0 -1 -1 -1");
        due.is("on the other; on none; told later", Lines.trips(x, 1, 4), "-1 0 -1 -1");
        x.run(1, 0);
        due.is("a machine not used", Lines.trips(x, 1, 4), "-1 -1 -1 -1");
    }

    private static void tripOfNone(Due due) {
        FeederOrders x = Lines.settled();
        for (int machine : new int[] {-1, 2, 3}) {
            due.outOfBounds("machine " + machine, () -> x.trip(machine, 0));
        }
        for (int part : new int[] {-1, 7, 39, 40}) {
            due.outOfBounds("part " + part, () -> x.trip(0, part));
        }
        for (int wild : WILD) {
            due.outOfBounds("machine " + wild, () -> x.trip(wild, 0));
            due.outOfBounds("part " + wild, () -> x.trip(0, wild));
        }
        due.is("afterwards", Lines.answers(x), Lines.answers(Lines.settled()));
    }

    private static void provedTrips(Due due) {
        for (int carried = 1; carried <= 6; carried++) {
            FeederOrders x = Lines.oneMachine(1L, carried, 0);
            x.run(1, 0);
            due.is("no trip", x.proved(), true);
            Lines.addParts(x, 0, carried);
            x.run(1, 0);
            due.is("one trip of " + carried, x.proved(), true);
            Lines.addParts(x, 0, 1);
            due.is("a part told after the run", x.proved(), true);
            x.run(1, 0);
            due.is("one more than " + carried, x.proved(), false);
            due.illegal("a refused run", () -> x.run(4, 0));
            due.is("after a refused run", x.proved(), false);
        }
        FeederOrders y = twoMachines();
        Lines.addParts(y, 1, 7);
        y.run(2, 0);
        due.is("two trips on the last machine", y.proved(), false);
        y.run(1, 0);
        due.is("which the latest run does not use", y.proved(), true);
        FeederOrders z = new FeederOrders(1L, 10);
        for (int m = 0; m < 3; m++) {
            z.machine(1, 6);
        }
        Lines.addKinds(z, 6, 6, 6);
        z.run(3, 0);
        due.is("three machines with a full trip each", z.proved(), true);
        due.is("three machines with two trips each", Lines.full().proved(), false);
    }

    private static void provedWithout(Due due) {
        FeederOrders x = Lines.oneMachine(1L, 1, 0);
        Lines.addParts(x, 0, 2);
        due.is("before any run", x.proved(), true);
        x.run(1, 0);
        due.is("two trips", x.proved(), false);
        x.run(0, 0);
        due.is("a run of no machine", x.proved(), true);
        due.is("an object without anything", new FeederOrders(1L, 1).proved(), true);
    }

    private static void boundOverMachines(Due due) {
        FeederOrders x = twoMachines();
        due.is("before any run", x.bound(), 0);
        x.run(2, 0);
        due.is("no parts", x.bound(), 0);
        Lines.addParts(x, 1, 2);
        x.run(2, 0);
        due.is("the second alone", x.bound(), 4);
        Lines.addParts(x, 0, 3);
        x.run(2, 0);
        due.is("the first has more", x.bound(), 6);
        x.run(1, 0);
        x.refill(1, 1);
        due.is("a machine that is not used", x.bound(), 6);
        x.run(0, 0);
        due.is("a run of no machine", x.bound(), 0);
        FeederOrders full = Lines.full();
        due.is("three machines alike", full.bound(), 24 + 40);
        full.refill(9, 1);
        due.is("the last kind's refills on the last machine", full.bound(), 24 + 40 + 150);
        full.reject(7, 999, 1000);
        due.is("rejects of a kind that is on none", full.bound(), 24 + 40 + 150);
    }

    private static void boundOfSupply(Due due) {
        FeederOrders x = Lines.oneMachine(1L, 1, 0);
        x.part(0, 100000, 100000, 0);
        x.part(0, 50000, 100000, 0);
        x.run(1, 0);
        due.is("ways do not count", x.bound(), 4);
        x.reject(0, 999, 1000);
        due.is("rejects as told now", x.bound(), 4000);
        x.refill(0, 1);
        due.is("refills as told now", x.bound(), 4000 + 50 * 1999);
        x.refill(0, 2000);
        due.is("a refill that is not needed", x.bound(), 4000);
        x.reject(0, 0, 1);
        due.is("no rejects once more", x.bound(), 4);
        Lines.addParts(x, 0, 1);
        due.is("a part told after the run", x.bound(), 4);
    }

    private static void boundOfNozzles(Due due) {
        FeederOrders x = Lines.oneMachine(1L, 6, 0, 1, 2, 3, 4, 5, 6, 7, 7);
        x.run(1, 0);
        due.is("no nozzle", x.bound(), 0);
        for (int kind = 0; kind < 8; kind++) {
            x.part(kind, 0, 0, kind);
            x.run(1, 0);
            due.is("nozzles 0 to " + kind, x.bound(), 2 * (kind + 1) + 20 * kind);
        }
        x.part(8, 0, 0, 8);
        x.part(0, 0, 0, 9);
        x.run(1, 0);
        due.is("nozzles 7 and 0 once more", x.bound(), 20 + 140);
        due.is("which is one change more", x.changes(0), 8);
    }

    private static void lowerPlaces(Due due) {
        FeederOrders x = twoMachines();
        x.part(1, 0, 0, 0);
        x.part(0, 0, 0, 10000);
        x.part(0, 0, 0, 9999);
        x.run(2, 0);
        due.is("on a lower machine", x.lower(1, 0), true);
        due.is("on a higher machine", x.lower(0, 1), false);
        due.is("earlier", x.lower(2, 1), true);
        due.is("later", x.lower(1, 2), false);
        due.is("itself", x.lower(0, 0) || x.lower(1, 1) || x.lower(2, 2), false);
        FeederOrders all = Lines.oneMachine(1L, 6, 0);
        Lines.addParts(all, 0, 40);
        all.run(1, 0);
        due.is("the first of forty ahead of the last", all.lower(0, 39), true);
        due.is("the last of forty ahead of the first", all.lower(39, 0), false);
        FeederOrders full = Lines.full();
        due.is("the first machine ahead of the last", full.lower(32, 6), true);
        due.is("the last machine ahead of the second", full.lower(6, 33), false);
    }

    private static void lowerNotPlaced(Due due) {
        FeederOrders x = twoMachines();
        x.kind(1, 7);
        Lines.addParts(x, 0, 2);
        Lines.addParts(x, 2, 2);
        due.is("before any run", x.lower(0, 1) || x.lower(1, 0), false);
        x.run(2, 0);
        due.is("both placed", x.lower(0, 1), true);
        due.is("a is not", x.lower(2, 0), false);
        due.is("b is not", x.lower(0, 2), false);
        due.is("neither is", x.lower(2, 3) || x.lower(3, 2) || x.lower(2, 2), false);
        x.run(0, 0);
        due.is("after a run of no machine", x.lower(0, 1) || x.lower(1, 0), false);
        FeederOrders full = Lines.full();
        due.is("on none of three machines", full.lower(7, 39) || full.lower(0, 7) || full.lower(7, 37), false);
    }

    private static void lowerOfNone(Due due) {
        FeederOrders x = Lines.settled();
        for (int part : new int[] {-1, 7, 39, 40}) {
            due.outOfBounds("a " + part, () -> x.lower(part, 0));
            due.outOfBounds("b " + part, () -> x.lower(0, part));
            due.outOfBounds("both " + part, () -> x.lower(part, part));
        }
        for (int wild : WILD) {
            due.outOfBounds("a " + wild, () -> x.lower(wild, 0));
            due.outOfBounds("b " + wild, () -> x.lower(0, wild));
        }
        due.is("afterwards", Lines.answers(x), Lines.answers(Lines.settled()));
    }

    private static void machineOfPlaced(Due due) {
        FeederOrders x = new FeederOrders(1L, 10);
        for (int nozzle = 0; nozzle < 3; nozzle++) {
            x.kind(1, 2 - nozzle);
            x.machine(1 << nozzle, 6);
            Lines.addParts(x, nozzle, 1);
        }
        x.run(3, 0);
        due.is("each of three machines", Lines.machinesOf(x, 3), "2 1 0");
        Lines.addParts(x, 0, 37);
        x.run(3, 0);
        due.is("the last of forty parts", x.machineOf(39), 2);
        due.is("ten kinds", Lines.machinesOf(Lines.full(), 10), "0 0 0 1 1 1 2 -1 2 2");
    }

    private static void machineOfNotPlaced(Due due) {
        FeederOrders x = twoMachines();
        x.kind(1, 7);
        for (int kind = 0; kind < 3; kind++) {
            Lines.addParts(x, kind, 1);
        }
        due.is("before any run", Lines.machinesOf(x, 3), "-1 -1 -1");
        x.run(2, 0);
        Lines.addParts(x, 0, 1);
        due.is("no machine has its nozzle; told later", Lines.machinesOf(x, 4), "0 1 -1 -1");
        x.run(1, 0);
        due.is("its machine is not used", Lines.machinesOf(x, 4), "0 -1 -1 0");
        x.run(0, 0);
        due.is("no machine is used", Lines.machinesOf(x, 4), "-1 -1 -1 -1");
        due.is("on none of three machines", Lines.full().machineOf(37), NONE);
    }

    private static void machineOfNone(Due due) {
        FeederOrders x = Lines.settled();
        for (int part : new int[] {-1, 7, 39, 40}) {
            due.outOfBounds("part " + part, () -> x.machineOf(part));
        }
        for (int wild : WILD) {
            due.outOfBounds("part " + wild, () -> x.machineOf(wild));
        }
        due.is("afterwards", Lines.answers(x), Lines.answers(Lines.settled()));
    }

    private static void improveGoesOn(Due due) {
        for (long seed = 0; seed < 20; seed++) {
            FeederOrders x = mixed(seed);
            NozzleRow row = mixedRow();
            Drawn drawn = new Drawn(seed);
            // Without a machine nothing is drawn, so that s is the seed still.
            x.improve(7);
            x.run(0, 7);
            x.improve(7);
            x.run(1, 2);
            exchange(row, drawn, 2);
            for (int steps : new int[] {0, 1, 0, 2, 3, 200}) {
                int kept = exchange(row, drawn, steps);
                due.is("seed " + seed + ", " + steps + " more", x.improve(steps), kept);
                due.is("seed " + seed + ", " + steps + " more", Lines.order(x, 0), row.toString());
            }
        }
    }

    private static void improveKept(Due due) {
        FeederOrders x = mixed(3L);
        due.is("before any run", x.improve(200), 0);
        due.is("none of none", x.improve(0), 0);
        int time = x.run(1, 0);
        due.is("seven changes", x.changes(0), 7);
        int kept = x.improve(200);
        due.is("some of 200, and each makes a change less at least", kept > 0 && x.changes(0) <= 7 - kept, true);
        due.is("none of none after a run", x.improve(0), 0);
        x.run(0, 0);
        due.is("no machine", x.improve(200), 0);
        due.is("a run begins anew", x.run(1, 0), time);
    }

    private static void improveOfWrongSteps(Due due) {
        FeederOrders x = Lines.settled();
        for (int steps : new int[] {-1, -200, 201, 202}) {
            due.illegal("steps " + steps, () -> x.improve(steps));
        }
        for (int wild : WILD) {
            due.illegal("steps " + wild, () -> x.improve(wild));
        }
        due.is("afterwards", Lines.answers(x), Lines.answers(Lines.settled()));
        FeederOrders empty = new FeederOrders(1L, 1);
        due.illegal("without machines", () -> empty.improve(201));
        due.is("200 without machines", empty.improve(200), 0);
    }

    private static void commonNozzles(Due due) {
        FeederOrders x = new FeederOrders(1L, 10);
        x.kind(1, 0);
        x.kind(1, 7);
        x.machine(1 + 128, 6);
        x.machine(128, 6);
        x.machine(1, 6);
        due.is("before any run no feeder stands", x.common(0, 1) && x.common(1, 2), true);
        Lines.addParts(x, 0, 1);
        x.run(3, 0);
        due.is("nozzle 0 on the first, and the third has it", x.common(0, 2) && x.common(2, 0), true);
        due.is("nozzle 0 on the first, and the second has it not", x.common(0, 1), false);
        due.is("the same the other way round", x.common(1, 0), false);
        due.is("neither has a feeder", x.common(1, 2), true);
        due.is("a machine and itself", x.common(0, 0) && x.common(1, 1), true);
        Lines.addParts(x, 1, 1);
        due.is("a part told after the run", x.common(0, 2), true);
        x.run(3, 0);
        due.is("nozzle 7 on the second, nozzle 0 on the first", x.common(0, 1), false);
        due.is("nozzle 7 on the second, and the third has it not", x.common(1, 2), false);
        due.is("nozzle 0 on the first alone", x.common(0, 2), true);
        x.run(0, 0);
        due.is("after a run of no machine", x.common(0, 1) && x.common(1, 2), true);
        FeederOrders full = Lines.full();
        due.is("ten kinds and three machines", full.common(0, 1) && full.common(1, 2) && full.common(2, 2), true);
    }

    private static void commonOfNone(Due due) {
        FeederOrders x = Lines.settled();
        for (int machine : new int[] {-1, 2, 3}) {
            due.outOfBounds("the first " + machine, () -> x.common(machine, 0));
            due.outOfBounds("the second " + machine, () -> x.common(0, machine));
            due.outOfBounds("both " + machine, () -> x.common(machine, machine));
        }
        for (int wild : WILD) {
            due.outOfBounds("the first " + wild, () -> x.common(wild, 0));
            due.outOfBounds("the second " + wild, () -> x.common(0, wild));
        }
        due.is("afterwards", Lines.answers(x), Lines.answers(Lines.settled()));
    }

    private static void changesInOrder(Due due) {
        FeederOrders x = Lines.oneMachine(1L, 6, 0, 7, 0);
        Lines.addParts(x, 0, 1);
        due.is("before any run", x.changes(0), 0);
        x.run(1, 0);
        due.is("one part", x.changes(0), 0);
        x.part(2, 0, 0, 1);
        x.run(1, 0);
        due.is("two kinds of one nozzle", x.changes(0), 0);
        for (int p = 2; p < 40; p++) {
            x.part(1 - p % 2, 0, 0, p);
        }
        due.is("parts told after the run", x.changes(0), 0);
        x.run(1, 0);
        due.is("forty parts, each with another nozzle than the one before, but the first two", x.changes(0), 38);
        x.run(0, 0);
        due.is("a machine not used", x.changes(0), 0);
    }

    private static void changesOfNone(Due due) {
        FeederOrders x = Lines.settled();
        for (int machine : new int[] {-1, 2, 3}) {
            due.outOfBounds("machine " + machine, () -> x.changes(machine));
        }
        for (int wild : WILD) {
            due.outOfBounds("machine " + wild, () -> x.changes(wild));
        }
        due.is("afterwards", Lines.answers(x), Lines.answers(Lines.settled()));
    }
}
