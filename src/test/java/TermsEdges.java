/** Boundary cases of the terms: slots, kinds, parts, machines, shares, order, time, exchanges. */
final class TermsEdges {
    private static final int NONE = FeederOrders.NONE;

    private TermsEdges() { }

    static void tell(Edges edges) {
        edges.sentence("What it is", "Machines that place parts: kinds shared over machines as evenly as can be, their"
                + " feeders in slots, parts in order of heights in trips of least way, seeded exchanges; nozzle"
                + " changes, refills, rejects, times and a bound.", TermsEdges::wholeLine);
        edges.sentence("What it is", "An object is used for at most 512 calls after it has been made; what later calls"
                + " answer is free.", TermsEdges::dearestCalls);
        edges.sentence("Terms, SLOTS",
                "A machine has SLOTS 0 .. slots - 1; slots are 1 .. 120 (what is told below is 1, above 120).",
                TermsEdges::slots);
        edges.sentence("Terms, KINDS", "KINDS 0 .. 9 of parts are 1 .. 4 SLOTS wide and need a NOZZLE 0 .. 7.",
                TermsEdges::kinds);
        edges.sentence("Terms, PARTS", "PARTS, at most 40, are of a KIND, at a place x, y (0 .. 100,000),"
                + " with a height (0 .. 10,000).", TermsEdges::parts);
        edges.sentence("Terms, MACHINES", "MACHINES 0 .. 2 have NOZZLES (bits) and carry 1 .. 6 parts a TRIP.",
                TermsEdges::machines);
        tellShares(edges);
        tellOrder(edges);
        tellTime(edges);
        tellExchanges(edges);
        edges.sentence("Terms, the constants", "The constants: `NONE = -1`: There is none.",
                due -> due.is("NONE", FeederOrders.NONE, -1));
    }

    private static void tellShares(Edges edges) {
        edges.sentence("Terms, SHARES",
                "SHARES: a RUN uses the first machines, as many as told (and there are).", TermsEdges::usedMachines);
        edges.sentence("Terms, SHARES", "Each KIND with PARTS whose NOZZLE one of them has goes to such a one:",
                TermsEdges::sharedKinds);
        edges.sentence("Terms, SHARES", "so that the greatest number of parts on a machine is least;",
                TermsEdges::evenShares);
        edges.sentence("Terms, SHARES", "of several ways that in which the first such KIND goes to the lowest"
                + " machine, of these the second one, and so on.", TermsEdges::firstShares);
        edges.sentence("Terms, SHARES", "Its FEEDER stands there: those of KINDS that are FIXED at their slot, then"
                + " the others, by number, from the lowest slot on at which there is room;", TermsEdges::feeders);
        edges.sentence("Terms, SHARES", "one for which there is none is not there.", TermsEdges::feedersWithoutRoom);
        edges.sentence("Terms, SHARES", "PARTS of KINDS that have no FEEDER are not placed.",
                TermsEdges::partsWithoutFeeder);
    }

    private static void tellOrder(Edges edges) {
        edges.sentence("Terms, ORDER",
                "ORDER: the PARTS of a machine stand by height, then x, then y, then number;", TermsEdges::standing);
        edges.sentence("Terms, ORDER",
                "so many as it carries make a TRIP each, the last one those that are left.", TermsEdges::trips);
        edges.sentence("Terms, ORDER",
                "In each TRIP they are put in that order whose WAY is least, heights never falling;",
                TermsEdges::leastWay);
        edges.sentence("Terms, ORDER",
                "of several orders the one whose first part has the lowest number, and so on.",
                TermsEdges::equalWays);
        edges.sentence("Terms, ORDER", "The WAY goes from 0, 0 from part to part and back to 0, 0, each time the"
                + " greater way, along x or y.", TermsEdges::way);
    }

    private static void tellTime(Edges edges) {
        edges.sentence("Terms, TIME", "TIME of a machine: the WAYS of its TRIPS, 2 for each part,",
                TermsEdges::timeOfParts);
        edges.sentence("Terms, TIME", "20 for each CHANGE (two parts one after the other in its ORDER, also from"
                + " TRIP to TRIP, whose KINDS need different NOZZLES),", TermsEdges::timeOfChanges);
        edges.sentence("Terms, TIME", "2 more for each REJECT, 50 for each REFILL.",
                TermsEdges::timeOfRejectsAndRefills);
        edges.sentence("Terms, TIME", "Of a KIND with n parts there in the RUN, of which a out of b are REJECTED (as"
                + " told now), there are as many REJECTS r that n + r is n times b divided by b - a, rounded up;",
                TermsEdges::rejects);
        edges.sentence("Terms, TIME", "a KIND refilled by m has so many REFILLS as m goes into n + r - 1.",
                TermsEdges::refills);
    }

    private static void tellExchanges(Edges edges) {
        edges.sentence("Terms, EXCHANGES",
                "EXCHANGES: for each, a machine is DRAWN (mod how many the RUN used),", TermsEdges::drawnMachines);
        edges.sentence("Terms, EXCHANGES", "and, when it has two parts or more, two of its parts (each mod how many"
                + " it has, by their places in its ORDER);", TermsEdges::drawnParts);
        edges.sentence("Terms, EXCHANGES", "when they are not of one height nothing is done;",
                TermsEdges::unequalHeights);
        edges.sentence("Terms, EXCHANGES", "else both change places, and the parts of each of their TRIPS are put in"
                + " order anew as above;", TermsEdges::changedTrips);
        edges.sentence("Terms, EXCHANGES", "that is kept when the machine's TIME is less than before.",
                TermsEdges::equalTimes);
        edges.sentence("Terms, EXCHANGES", "For a DRAW s, at first the seed, becomes s * 6364136223846793005 +"
                + " 1442695040888963407 (which wraps), and s shifted right by 33, without sign, is drawn.",
                TermsEdges::draws);
    }

    /** The 512 dearest calls: forty parts of one height, six a trip, 200 exchanges each time. */
    /** Worked out by hand: on each machine one exchange is kept, and no other can be, whatever the seed. */
    private static void wholeLine(Due due) {
        for (long seed = 1; seed < 6; seed++) {
            FeederOrders x = new FeederOrders(seed, 9);
            x.kind(2, 0);
            x.kind(1, 1);
            x.kind(3, 0);
            x.machine(3, 2);
            x.machine(3, 2);
            x.part(0, 0, 100, 4);
            x.part(0, 50, 0, 4);
            x.part(0, 60, 100, 4);
            x.part(1, 5, 5, 1);
            x.part(1, 20, 0, 0);
            x.part(2, 0, 7, 1);
            x.fixed(1, 2);
            x.reject(0, 1, 4);
            x.refill(0, 2);
            due.is("ways 250 and 200, 3 parts, 1 reject, 1 refill", x.run(2, 0), 450 + 6 + 2 + 50);
            due.is("slots of machine 0", Lines.slots(x, 0, 3), "0 -1 -1");
            due.is("slots of machine 1", Lines.slots(x, 1, 3), "-1 2 3");
            due.is("order of machine 0", Lines.order(x, 0), "0 1 2");
            due.is("order of machine 1", Lines.order(x, 1), "4 5 3");
            due.is("changes of machine 1", x.changes(1), 2);
            due.is("kept", x.improve(200), 2);
            due.is("order of machine 0 then", Lines.order(x, 0), "0 2 1");
            due.is("order of machine 1 then", Lines.order(x, 1), "4 3 5");
            due.is("changes of machine 1 then", x.changes(1), 1);
            due.is("bound", x.bound(), 6 + 2 + 50);
            due.is("ways 260 and 100", x.run(2, 200), 360 + 6 + 2 + 50);
        }
    }

    private static void dearestCalls(Due due) {
        FeederOrders x = Lines.oneMachine(5L, 6, 0, 1);
        for (int p = 0; p < 40; p++) {
            x.part(p % 2, p * 7919L % 100001, p * 104729L % 100001, 0);
        }
        int before = x.run(1, 200);
        for (int i = 0; i < 427; i++) {
            due.is("kept of 200", x.improve(200) >= 0, true);
        }
        boolean[] seen = new boolean[40];
        for (int k = 0; k < 40; k++) {
            int part = x.order(0, k);
            due.is("place " + k + " has a part that has none before", part >= 0 && part < 40 && !seen[part], true);
            seen[Math.max(0, part)] = true;
        }
        due.is("one more run begins anew", x.run(1, 0) >= before, true);
    }

    private static void slots(Due due) {
        for (int told : new int[] {Integer.MIN_VALUE, -120, -1, 0, 1}) {
            dueSlots(due, told, 1);
        }
        for (int told : new int[] {2, 5, 119}) {
            dueSlots(due, told, told);
        }
        for (int told : new int[] {120, 121, 240, Integer.MAX_VALUE}) {
            dueSlots(due, told, 120);
        }
    }

    private static void dueSlots(Due due, int told, int slots) {
        FeederOrders x = new FeederOrders(1L, told);
        x.kind(1, 0);
        x.kind(2, 0);
        due.outOfBounds("told " + told + ", slot " + slots, () -> x.fixed(0, slots));
        due.is("told " + told + ", two slots wide at the last one", x.fixed(1, slots - 1), false);
        due.is("told " + told + ", the last slot", x.fixed(0, slots - 1), true);
        // So many kinds one slot wide as there are slots stand; with ten kinds that shows up to nine slots.
        FeederOrders y = new FeederOrders(1L, told);
        y.machine(1, 1);
        Lines.addKinds(y, 1, 1, 1, 1, 1, 1, 1, 1, 1, 1);
        y.run(1, 0);
        for (int k = 0; k < 10; k++) {
            due.is("told " + told + ", feeder " + k, y.slot(0, k), k < slots ? k : NONE);
        }
    }

    private static void kinds(Due due) {
        FeederOrders x = new FeederOrders(1L, 10);
        x.machine(255, 6);
        for (int width = 1; width <= 4; width++) {
            due.is("width " + width, x.kind(width, 0), width - 1);
            x.part(width - 1, 0, 0, 0);
        }
        x.run(1, 0);
        due.is("1, 2, 3 and 4 slots fill ten", Lines.slots(x, 0, 4), "0 1 3 6");
        for (int nozzle = 0; nozzle <= 7; nozzle++) {
            FeederOrders y = new FeederOrders(1L, 10);
            due.is("nozzle " + nozzle, y.kind(1, nozzle), 0);
            y.part(0, 0, 0, 0);
            y.machine(255 - (1 << nozzle), 1);
            y.machine(1 << nozzle, 1);
            y.run(2, 0);
            due.is("the machine with nozzle " + nozzle + " alone", y.machineOf(0), 1);
        }
    }

    private static void parts(Due due) {
        FeederOrders x = Lines.oneMachine(1L, 6, 0);
        due.is("greatest place and height", x.part(0, 100000, 100000, 10000), 0);
        due.is("least place and height", x.part(0, 0, 0, 0), 1);
        due.is("one below the greatest height", x.part(0, 100000, 99999, 9999), 2);
        due.is("their way", x.run(1, 0), 0 + 100000 + 1 + 100000 + 6);
        due.is("their order", Lines.order(x, 0), "1 2 0");
        for (int p = 3; p < 40; p++) {
            due.is("part", x.part(0, 0, 0, 0), p);
        }
        due.is("the 41st", x.part(0, 0, 0, 0), NONE);
        x.run(1, 0);
        due.is("the 40th is placed", x.machineOf(39), 0);
        due.outOfBounds("no 41st", () -> x.machineOf(40));
    }

    private static void machines(Due due) {
        FeederOrders x = new FeederOrders(1L, 10);
        Lines.addKinds(x, 7);
        x.machine(0, 6);
        x.machine(255, 1);
        x.machine(1, 6);
        due.is("without nozzles nothing is placed", x.run(1, 0), 0);
        due.is("without nozzles", Lines.order(x, 0), "");
        x.run(2, 0);
        due.is("one part a trip", Lines.trips(x, 1, 7), "0 1 2 3 4 5 6");
        FeederOrders y = new FeederOrders(1L, 10);
        Lines.addKinds(y, 7);
        y.machine(1, 6);
        y.run(1, 0);
        due.is("six parts a trip", Lines.trips(y, 0, 7), "0 0 0 0 0 0 1");
    }

    private static void usedMachines(Due due) {
        FeederOrders x = new FeederOrders(1L, 10);
        Lines.addKinds(x, 1, 1, 1);
        due.is("none there, 3 told", x.run(3, 0), 0);
        due.is("none there, 3 told", Lines.machinesOf(x, 3), "-1 -1 -1");
        x.machine(1, 6);
        x.run(3, 0);
        due.is("1 there, 3 told", Lines.machinesOf(x, 3), "0 0 0");
        x.machine(1, 6);
        x.run(3, 0);
        due.is("2 there, 3 told", Lines.machinesOf(x, 3), "0 0 1");
        x.machine(1, 6);
        x.run(3, 0);
        due.is("3 there, 3 told", Lines.machinesOf(x, 3), "0 1 2");
        x.run(2, 0);
        due.is("3 there, 2 told", Lines.machinesOf(x, 3), "0 0 1");
        x.run(1, 0);
        due.is("3 there, 1 told", Lines.machinesOf(x, 3), "0 0 0");
        x.run(0, 0);
        due.is("3 there, 0 told", Lines.machinesOf(x, 3), "-1 -1 -1");
    }

    private static void sharedKinds(Due due) {
        FeederOrders x = new FeederOrders(1L, 10);
        for (int nozzle = 0; nozzle < 4; nozzle++) {
            x.kind(1, nozzle);
        }
        x.machine(1 + 8, 6);
        x.machine(1 + 4, 6);
        for (int kind = 1; kind < 4; kind++) {
            Lines.addParts(x, kind, 1);
        }
        x.run(1, 0);
        due.is("without parts; no nozzle; the nozzle of an unused one; its own", Lines.slots(x, 0, 4), "-1 -1 -1 0");
        due.is("the unused one", Lines.slots(x, 1, 4), "-1 -1 -1 -1");
        x.run(2, 0);
        due.is("two used, the first", Lines.slots(x, 0, 4), "-1 -1 -1 0");
        due.is("two used, the second", Lines.slots(x, 1, 4), "-1 -1 0 -1");
        x.part(0, 0, 0, 0);
        x.run(2, 0);
        due.is("the first kind's first part", x.machineOf(3), 0);
    }

    private static void evenShares(Due due) {
        FeederOrders x = new FeederOrders(1L, 10);
        Lines.addKinds(x, 3, 3, 2, 2, 2);
        x.machine(1, 6);
        x.machine(1, 6);
        x.run(2, 0);
        due.is("3 + 3 and 2 + 2 + 2, the first", Lines.slots(x, 0, 5), "0 1 -1 -1 -1");
        due.is("3 + 3 and 2 + 2 + 2, the second", Lines.slots(x, 1, 5), "-1 -1 0 1 2");
        FeederOrders all = new FeederOrders(1L, 10);
        Lines.addKinds(all, 40);
        all.machine(2, 6);
        all.machine(1, 6);
        all.machine(2, 6);
        all.run(3, 0);
        due.is("forty parts of one kind", all.order(1, 39) != NONE && all.order(1, 40) == NONE, true);
        FeederOrders last = new FeederOrders(1L, 10);
        Lines.addKinds(last, 40);
        last.machine(0, 6);
        last.machine(0, 6);
        last.machine(1, 6);
        last.run(3, 0);
        due.is("forty parts on the last machine", last.order(2, 39) != NONE, true);
        FeederOrders ten = new FeederOrders(1L, 10);
        Lines.addKinds(ten, 4, 4, 4, 4, 4, 4, 4, 4, 4, 4);
        for (int m = 0; m < 3; m++) {
            ten.machine(1, 6);
        }
        ten.run(3, 0);
        due.is("ten kinds of four, 16 at most, the first", Lines.slots(ten, 0, 10), "0 1 2 3 -1 -1 -1 -1 -1 -1");
        due.is("ten kinds of four, 16 at most, the second", Lines.slots(ten, 1, 10), "-1 -1 -1 -1 0 1 2 3 -1 -1");
        due.is("ten kinds of four, 16 at most, the third", Lines.slots(ten, 2, 10), "-1 -1 -1 -1 -1 -1 -1 -1 0 1");
    }

    private static void firstShares(Due due) {
        FeederOrders x = new FeederOrders(1L, 10);
        Lines.addKinds(x, 0, 2, 1, 1);
        for (int m = 0; m < 3; m++) {
            x.machine(1, 6);
        }
        x.run(3, 0);
        // No machine need have more than 2; kind 0 has no parts, so that kind 1 is the first.
        due.is("the third machine stays empty", Lines.machinesOf(x, 4), "0 0 1 1");
        FeederOrders y = new FeederOrders(1L, 10);
        Lines.addKinds(y, 1, 1, 1, 1, 1, 1, 1, 1, 1, 1);
        for (int m = 0; m < 3; m++) {
            y.machine(1, 6);
        }
        y.run(3, 0);
        due.is("four at most", Lines.machinesOf(y, 10), "0 0 0 0 1 1 1 1 2 2");
        FeederOrders z = new FeederOrders(1L, 10);
        z.kind(1, 1);
        z.kind(1, 0);
        z.kind(1, 0);
        z.machine(1, 6);
        z.machine(3, 6);
        for (int kind = 0; kind < 3; kind++) {
            z.part(kind, 0, 0, 0);
        }
        z.run(2, 0);
        due.is("the first can go to the second machine alone", Lines.machinesOf(z, 3), "1 0 0");
        FeederOrders w = new FeederOrders(1L, 10);
        Lines.addKinds(w, 1, 3, 1, 1);
        w.machine(1, 6);
        w.machine(1, 6);
        w.run(2, 0);
        // The first two on machine 0 make 4, one too many; so the second one goes to 1, though 0 is lower.
        due.is("three at most", Lines.machinesOf(w, 6), "0 1 1 1 0 0");
    }

    private static void feeders(Due due) {
        FeederOrders x = new FeederOrders(1L, 8);
        x.machine(1, 6);
        int[] widths = {2, 3, 1, 1, 1};
        for (int k = 0; k < widths.length; k++) {
            x.kind(widths[k], 0);
            x.part(k, 0, 0, 0);
        }
        x.fixed(2, 2);
        x.fixed(4, 7);
        x.run(1, 0);
        // 2 leaves just two slots before it, 4 the slots 3 .. 6 for 1 and 3.
        due.is("gaps that are filled to the last slot", Lines.slots(x, 0, 5), "0 3 2 6 7");
        FeederOrders y = new FeederOrders(1L, 6);
        y.machine(1, 6);
        y.kind(2, 0);
        y.kind(1, 0);
        y.kind(3, 0);
        y.fixed(2, 1);
        for (int k = 0; k < 3; k++) {
            y.part(k, 0, 0, 0);
        }
        y.run(1, 0);
        due.is("one slot is too narrow for the first, not for the second", Lines.slots(y, 0, 3), "4 0 1");
        FeederOrders z = new FeederOrders(1L, 4);
        z.kind(4, 0);
        z.kind(4, 1);
        z.machine(1, 6);
        z.machine(2, 6);
        z.fixed(0, 0);
        z.part(0, 0, 0, 0);
        z.part(1, 0, 0, 0);
        z.run(2, 0);
        due.is("a fixed one on another machine takes no room here", z.slot(1, 1), 0);
        due.is("all slots for a fixed one", z.slot(0, 0), 0);
    }

    /** Fixed at 2 of 0 .. 4, so that there is room for two, and two, and then for none. */
    private static FeederOrders crowded() {
        FeederOrders x = new FeederOrders(1L, 5);
        x.machine(1, 6);
        int[] widths = {3, 2, 2, 1, 1};
        for (int k = 0; k < widths.length; k++) {
            x.kind(widths[k], 0);
            x.part(k, 10 * (k + 1), 0, k);
        }
        x.fixed(4, 2);
        return x;
    }

    private static void feedersWithoutRoom(Due due) {
        FeederOrders x = crowded();
        x.run(1, 0);
        due.is("three slots nowhere, and one at last", Lines.slots(x, 0, 5), "-1 0 3 -1 2");
        FeederOrders y = new FeederOrders(1L, 3);
        y.machine(1, 6);
        y.kind(4, 0);
        y.part(0, 0, 0, 0);
        y.run(1, 0);
        due.is("wider than all slots", y.slot(0, 0), NONE);
    }

    private static void partsWithoutFeeder(Due due) {
        FeederOrders x = crowded();
        due.is("time of the others", x.run(1, 0), 20 + 10 + 20 + 50 + 6);
        due.is("order of the others", Lines.order(x, 0), "1 2 4");
        due.is("machines", Lines.machinesOf(x, 5), "-1 0 0 -1 0");
        due.is("trips", Lines.trips(x, 0, 5), "-1 0 0 -1 0");
        due.is("bound of the others", x.bound(), 6);
        x.refill(0, 1);
        x.reject(3, 1, 2);
        due.is("refills and rejects of what has no feeder", x.run(1, 0), 106);
    }

    private static void standing(Due due) {
        FeederOrders x = Lines.oneMachine(1L, 1, 0);
        x.part(0, 100000, 0, 0);
        x.part(0, 0, 100000, 0);
        x.part(0, 0, 100000, 0);
        x.part(0, 0, 0, 10000);
        x.part(0, 0, 0, 1);
        x.part(0, 0, 99999, 0);
        x.part(0, 99999, 1, 0);
        x.run(1, 0);
        due.is("each of the four decides once", Lines.order(x, 0), "5 1 2 6 0 4 3");
    }

    private static void trips(Due due) {
        FeederOrders x = Lines.oneMachine(1L, 3, 0);
        String[] wanted = {"", "0", "0 0", "0 0 0", "0 0 0 1", "0 0 0 1 1", "0 0 0 1 1 1", "0 0 0 1 1 1 2"};
        for (int count = 0; count < wanted.length; count++) {
            x.run(1, 0);
            due.is(count + " parts", Lines.trips(x, 0, count), wanted[count]);
            x.part(0, 0, 0, count);
        }
    }

    /** 0 at 10, 0; 1 at 20, 0; 2 at 0, 20: the way 0, 1, 2 (or back) is 60, all others are 70. */
    private static FeederOrders corner(int heightOf0, int heightOf1, int heightOf2) {
        FeederOrders x = Lines.oneMachine(1L, 3, 0);
        x.part(0, 10, 0, heightOf0);
        x.part(0, 20, 0, heightOf1);
        x.part(0, 0, 20, heightOf2);
        return x;
    }

    private static void leastWay(Due due) {
        FeederOrders even = corner(4, 4, 4);
        due.is("of one height", even.run(1, 0), 60 + 6);
        due.is("of one height", Lines.order(even, 0), "0 1 2");
        FeederOrders rising = corner(0, 1, 2);
        due.is("rising on the least way", rising.run(1, 0), 60 + 6);
        FeederOrders falling = corner(2, 1, 0);
        falling.run(1, 0);
        due.is("falling that way, so the other way round", Lines.order(falling, 0), "2 1 0");
        FeederOrders dented = corner(1, 0, 1);
        due.is("the middle one must be first", dented.run(1, 0), 70 + 6);
        due.is("the middle one must be first", Lines.order(dented, 0), "1 0 2");
        FeederOrders peak = corner(0, 1, 0);
        due.is("the middle one must be last", peak.run(1, 0), 70 + 6);
        due.is("the middle one must be last", Lines.order(peak, 0), "0 2 1");
        FeederOrders alone = Lines.oneMachine(1L, 3, 0);
        alone.part(0, 5, 9, 3);
        due.is("a trip of one", alone.run(1, 0), 18 + 2);
        FeederOrders middle = Lines.oneMachine(1L, 3, 0);
        middle.part(0, 20, 0, 0);
        middle.part(0, 10, 0, 0);
        middle.part(0, 0, 20, 0);
        due.is("the lowest number in the middle", middle.run(1, 0), 60 + 6);
        due.is("the lowest number in the middle", Lines.order(middle, 0), "1 0 2");
        dented.part(0, 10, 0, 2);
        dented.part(0, 20, 0, 2);
        dented.part(0, 0, 20, 2);
        due.is("heights of one trip bind no other one", dented.run(1, 0), 70 + 60 + 12);
        due.is("heights of one trip bind no other one", Lines.order(dented, 0), "1 0 2 3 4 5");
        leastWayOfFullTrips(due);
    }

    /** Two columns: up the far one and down the near one; each trip of one height. */
    private static void leastWayOfFullTrips(Due due) {
        FeederOrders x = Lines.oneMachine(1L, 6, 0);
        for (int p = 0; p < 14; p++) {
            x.part(0, p % 2 == 0 ? 0 : 1000, 100 * (6 - p % 6), p / 6);
        }
        due.is("two full trips, and one of two", x.run(1, 0), 3000 + 3000 + 2600 + 28);
        due.is("two full trips, and one of two", Lines.order(x, 0), "1 3 5 0 2 4 7 9 11 6 8 10 12 13");
    }

    private static void equalWays(Due due) {
        FeederOrders line = Lines.oneMachine(1L, 6, 0);
        line.part(0, 30, 0, 0);
        line.part(0, 10, 0, 0);
        line.part(0, 20, 0, 0);
        line.run(1, 0);
        due.is("the first part has the lowest number", Lines.order(line, 0), "0 2 1");
        FeederOrders second = Lines.oneMachine(1L, 6, 0);
        second.part(0, 0, 0, 0);
        second.part(0, 10, 0, 0);
        second.part(0, 0, 10, 0);
        second.run(1, 0);
        // By x, part 2 stands ahead of part 1.
        due.is("the second part has the lowest number", Lines.order(second, 0), "0 1 2");
        FeederOrders place = Lines.oneMachine(1L, 6, 0);
        Lines.addParts(place, 0, 6);
        place.run(1, 0);
        due.is("six in one place", Lines.order(place, 0), "0 1 2 3 4 5");
        FeederOrders turned = Lines.oneMachine(1L, 2, 0);
        turned.part(0, 9, 0, 0);
        turned.part(0, 3, 0, 0);
        turned.run(1, 0);
        due.is("two are as far either way round", Lines.order(turned, 0), "0 1");
    }

    private static void way(Due due) {
        long[][] placesAndTimes = {{0, 0, 2}, {7, 3, 16}, {3, 7, 16}, {5, 5, 12}, {0, 1, 4}, {1, 0, 4},
                {100000, 99999, 200002}, {99999, 100000, 200002}, {100000, 0, 200002}};
        for (long[] each : placesAndTimes) {
            FeederOrders x = Lines.oneMachine(1L, 6, 0);
            x.part(0, each[0], each[1], 0);
            due.is("to " + each[0] + ", " + each[1] + " and back", x.run(1, 0), each[2]);
        }
        FeederOrders together = Lines.oneMachine(1L, 2, 0);
        together.part(0, 10, 0, 0);
        together.part(0, 0, 10, 0);
        due.is("from one to the other", together.run(1, 0), 10 + 10 + 10 + 4);
        FeederOrders apart = Lines.oneMachine(1L, 1, 0);
        apart.part(0, 10, 0, 0);
        apart.part(0, 0, 10, 0);
        due.is("each trip back to 0, 0", apart.run(1, 0), 20 + 20 + 4);
    }

    private static void timeOfParts(Due due) {
        FeederOrders x = Lines.oneMachine(1L, 6, 0);
        due.is("no parts", x.run(1, 0), 0);
        x.part(0, 0, 0, 0);
        due.is("one at 0, 0", x.run(1, 0), 2);
        Lines.addParts(x, 0, 39);
        due.is("forty at 0, 0", x.run(1, 0), 80);
        FeederOrders far = Lines.oneMachine(1L, 1, 0);
        for (int p = 0; p < 40; p++) {
            far.part(0, 100000, 0, 0);
        }
        due.is("forty trips of the greatest way", far.run(1, 0), 40 * 200000 + 80);
    }

    private static void timeOfChanges(Due due) {
        FeederOrders x = Lines.oneMachine(1L, 2, 0, 7, 0);
        x.part(0, 0, 0, 0);
        due.is("one part", x.run(1, 0), 2);
        x.part(2, 0, 0, 1);
        due.is("two kinds of one nozzle", x.run(1, 0), 4);
        x.part(1, 0, 0, 2);
        due.is("from trip to trip", x.run(1, 0), 6 + 20);
        x.part(1, 0, 0, 3);
        due.is("none within a trip of one nozzle", x.run(1, 0), 8 + 20);
        x.part(0, 0, 0, 4);
        x.part(1, 0, 0, 5);
        due.is("from trip to trip, and within a trip", x.run(1, 0), 12 + 60);
    }

    private static void timeOfRejectsAndRefills(Due due) {
        FeederOrders x = Lines.oneMachine(1L, 6, 0, 0);
        Lines.addParts(x, 0, 2);
        x.reject(0, 1, 2);
        due.is("two rejects", x.run(1, 0), 4 + 4);
        x.refill(0, 3);
        due.is("and one refill", x.run(1, 0), 4 + 4 + 50);
        Lines.addParts(x, 1, 2);
        due.is("another kind has neither", x.run(1, 0), 8 + 4 + 50);
        x.refill(1, 1);
        due.is("but a refill of its own", x.run(1, 0), 8 + 4 + 50 + 50);
    }

    private static void dueRejects(Due due, int n, int a, int b, int rejects) {
        FeederOrders x = Lines.oneMachine(1L, 6, 0);
        Lines.addParts(x, 0, n);
        x.reject(0, a, b);
        due.is(n + " parts, " + a + " of " + b + " rejected", x.run(1, 0), 2 * n + 2 * rejects);
        due.is(n + " parts, " + a + " of " + b + " rejected, bound", x.bound(), 2 * n + 2 * rejects);
    }

    private static void rejects(Due due) {
        dueRejects(due, 0, 1, 2, 0);
        dueRejects(due, 1, 0, 1, 0);
        dueRejects(due, 1, 0, 1000, 0);
        dueRejects(due, 40, 0, 7, 0);
        dueRejects(due, 1, 1, 1000, 1);
        dueRejects(due, 40, 1, 1000, 1);
        dueRejects(due, 1, 1, 2, 1);
        dueRejects(due, 4, 1, 3, 2);
        dueRejects(due, 5, 1, 3, 3);
        dueRejects(due, 6, 1, 3, 3);
        dueRejects(due, 10, 1, 11, 1);
        dueRejects(due, 11, 1, 11, 2);
        dueRejects(due, 1, 999, 1000, 999);
        dueRejects(due, 40, 999, 1000, 39960);
        FeederOrders x = Lines.oneMachine(1L, 6, 0);
        Lines.addParts(x, 0, 2);
        x.run(1, 0);
        x.reject(0, 1, 2);
        due.is("told after the run", x.bound(), 4 + 4);
        Lines.addParts(x, 0, 1);
        due.is("a part told after the run is not there in it", x.bound(), 4 + 4);
        x.run(1, 0);
        due.is("but in the next one", x.bound(), 6 + 6);
    }

    private static void dueRefills(Due due, int n, int a, int b, int m, int refills) {
        FeederOrders x = Lines.oneMachine(1L, 6, 0);
        Lines.addParts(x, 0, n);
        x.reject(0, a, b);
        int without = x.run(1, 0);
        x.refill(0, m);
        due.is(n + " parts, " + a + " of " + b + " rejected, refilled by " + m, x.run(1, 0), without + 50 * refills);
        due.is(n + " parts, refilled by " + m + ", bound", x.bound(), without + 50 * refills);
    }

    private static void refills(Due due) {
        dueRefills(due, 0, 0, 1, 1, 0);
        dueRefills(due, 0, 1, 2, 2, 0);
        dueRefills(due, 1, 0, 1, 1, 0);
        dueRefills(due, 1, 0, 1, 0, 0);
        dueRefills(due, 2, 0, 1, 1, 1);
        dueRefills(due, 6, 0, 1, 5, 1);
        dueRefills(due, 6, 0, 1, 6, 0);
        dueRefills(due, 7, 0, 1, 3, 2);
        dueRefills(due, 6, 0, 1, 3, 1);
        dueRefills(due, 40, 0, 1, 1, 39);
        dueRefills(due, 40, 0, 1, 0, 0);
        dueRefills(due, 3, 1, 2, 5, 1);
        dueRefills(due, 3, 1, 2, 6, 0);
        dueRefills(due, 40, 999, 1000, 1, 39999);
        dueRefills(due, 40, 999, 1000, 39999, 1);
        dueRefills(due, 40, 999, 1000, 40000, 0);
        dueRefills(due, 40, 999, 1000, Integer.MAX_VALUE, 0);
    }

    /** Kinds 0 and 1 need nozzles 0 and 1; the parts are told to the line and to its plain row alike. */
    private static void addMixed(FeederOrders x, NozzleRow row, int... heights) {
        for (int p = 0; p < heights.length; p++) {
            x.part(p % 2, 0, 0, heights[p]);
            row.add(p % 2, heights[p]);
        }
        row.stand();
    }

    private static void dueExchanges(Due due, String name, FeederOrders x, NozzleRow row, Drawn drawn, int steps) {
        for (int i = 0; i < steps; i++) {
            drawn.mod(1);
            due.is(name + ", exchange " + i, x.improve(1), row.exchange(drawn));
            due.is(name + ", exchange " + i, Lines.order(x, 0), row.toString());
        }
    }

    private static void drawnMachines(Due due) {
        for (int used = 1; used <= 3; used++) {
            for (long seed = 0; seed < 30; seed++) {
                dueDrawnMachines(due, seed, used);
            }
        }
        FeederOrders none = Lines.oneMachine(1L, 1, 0, 1);
        addMixed(none, new NozzleRow(), 0, 0, 0, 0);
        due.is("none used", none.run(0, 200), 0);
        due.is("none used", none.improve(200), 0);
        NozzleRow row = new NozzleRow();
        FeederOrders later = Lines.oneMachine(4L, 1, 0, 1);
        addMixed(later, row, 0, 0, 0, 0);
        later.improve(1);
        later.run(0, 1);
        later.improve(1);
        later.run(1, 0);
        dueExchanges(due, "none used before, so none drawn", later, row, new Drawn(4L), 20);
    }

    /** The last machine used has all the parts, so that the others, when they are drawn, draw none. */
    private static void dueDrawnMachines(Due due, long seed, int used) {
        FeederOrders x = new FeederOrders(seed, 5);
        x.kind(1, 0);
        x.kind(1, 1);
        for (int m = 1; m <= 3; m++) {
            x.machine(m == used ? 3 : 0, 1);
        }
        NozzleRow row = new NozzleRow();
        addMixed(x, row, 0, 0, 0, 0, 0, 0);
        x.run(used, 0);
        Drawn drawn = new Drawn(seed);
        for (int i = 0; i < 8; i++) {
            int kept = drawn.mod(used) == used - 1 ? row.exchange(drawn) : 0;
            due.is(used + " used, seed " + seed + ", exchange " + i, x.improve(1), kept);
        }
        due.is(used + " used, seed " + seed, Lines.order(x, used - 1), row.toString());
    }

    /** How much was drawn over no part, one, two, three shows in what the next exchanges draw. */
    private static void drawnParts(Due due) {
        int[][] heights = {{}, {0}, {0, 0}, {0, 0, 0}};
        for (int count = 0; count < heights.length; count++) {
            for (long seed = 0; seed < 30; seed++) {
                FeederOrders x = Lines.oneMachine(seed, 1, 0, 1);
                NozzleRow row = new NozzleRow();
                Drawn drawn = new Drawn(seed);
                addMixed(x, row, heights[count]);
                x.run(1, 0);
                dueExchanges(due, count + " parts, seed " + seed, x, row, drawn, 5);
                addMixed(x, row, 7, 7, 7, 7);
                x.run(1, 0);
                dueExchanges(due, count + " parts and 4 more, seed " + seed, x, row, drawn, 6);
            }
        }
    }

    private static void unequalHeights(Due due) {
        int[][] heights = {{0, 1, 2, 3}, {0, 0, 0, 1}, {0, 0, 1, 1}, {9999, 10000, 10000, 10000}};
        for (int[] each : heights) {
            for (long seed = 0; seed < 30; seed++) {
                FeederOrders x = Lines.oneMachine(seed, 1, 0, 1);
                NozzleRow row = new NozzleRow();
                addMixed(x, row, each);
                x.run(1, 0);
                dueExchanges(due, "seed " + seed, x, row, new Drawn(seed), 12);
            }
        }
    }

    /**
     * By x the trips are 0, 1 and 2, 3, of ways 210 and 230. Places 0 and 3 exchanged make them 3, 1 and 2, 0;
     * places 1 and 2 make them 0, 2 and 1, 3: 60 and 220 either way. All other exchanges leave 440 in all.
     */
    private static void changedTrips(Due due) {
        for (long seed = 0; seed < 60; seed++) {
            FeederOrders x = Lines.oneMachine(seed, 2, 0);
            x.part(0, 0, 100, 0);
            x.part(0, 10, 0, 0);
            x.part(0, 20, 100, 0);
            x.part(0, 30, 0, 0);
            x.run(1, 0);
            String row = "0 1 2 3";
            Drawn drawn = new Drawn(seed);
            for (int i = 0; i < 8; i++) {
                drawn.mod(1);
                int a = drawn.mod(4);
                int b = drawn.mod(4);
                boolean kept = row.equals("0 1 2 3") && a + b == 3 && a != b;
                if (kept) {
                    row = a == 0 || b == 0 ? "1 3 0 2" : "0 2 1 3";
                }
                due.is("seed " + seed + ", places " + a + " and " + b, x.improve(1), kept ? 1 : 0);
                due.is("seed " + seed + ", places " + a + " and " + b, Lines.order(x, 0), row);
            }
        }
    }

    private static void equalTimes(Due due) {
        FeederOrders x = Lines.oneMachine(9L, 1, 0);
        Lines.addParts(x, 0, 8);
        x.run(1, 0);
        due.is("all alike, one a trip", x.improve(200), 0);
        due.is("all alike, one a trip", Lines.order(x, 0), "0 1 2 3 4 5 6 7");
        FeederOrders one = Lines.oneMachine(9L, 6, 0, 1);
        for (int p = 0; p < 6; p++) {
            one.part(p % 2, 1000 * p, 0, 0);
        }
        one.run(1, 0);
        String before = Lines.order(one, 0);
        due.is("within the only trip", one.improve(200), 0);
        due.is("within the only trip", Lines.order(one, 0), before);
        due.is("ways shorter by 40, and two changes more", keptOfFar(22), 0);
        due.is("ways shorter by 42, and two changes more", keptOfFar(23), 1);
    }

    /**
     * Trips 0, 1 and 2, 3 of nozzles 0, 0 and 1, 1 have ways 2y + 1 and 2y + 3, and one change between them; 0, 2
     * and 1, 3 have ways 2y + 2 and 6, and three changes. All other exchanges make nothing shorter.
     */
    private static int keptOfFar(int y) {
        FeederOrders x = Lines.oneMachine(9L, 2, 0, 1);
        x.part(0, 0, y, 0);
        x.part(0, 1, 0, 0);
        x.part(1, 2, y, 0);
        x.part(1, 3, 0, 0);
        x.run(1, 0);
        return x.improve(200);
    }

    private static void draws(Due due) {
        long[] seeds = {0, 1, -1, 33, Long.MAX_VALUE, Long.MIN_VALUE, Long.MIN_VALUE + 1, 1L << 32, 1L << 33, -1L << 33};
        for (long seed : seeds) {
            FeederOrders x = Lines.oneMachine(seed, 1, 0, 1);
            NozzleRow row = new NozzleRow();
            addMixed(x, row, 0, 0, 0, 0, 0, 0, 0);
            x.run(1, 0);
            dueExchanges(due, "seed " + seed, x, row, new Drawn(seed), 20);
        }
    }
}
