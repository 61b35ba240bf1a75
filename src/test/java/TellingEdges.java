/** Boundary cases of promises 1 to 5, 13 and 14: what is told to an object, and what it refuses. */
final class TellingEdges {
    private static final int NONE = FeederOrders.NONE;
    private static final int[] WILD = {Integer.MIN_VALUE, Integer.MIN_VALUE + 1, -1000, Integer.MAX_VALUE};
    private static final long[] WILD_LONGS = {Long.MIN_VALUE, -1L << 32, 1L << 32, (1L << 32) + 1, Long.MAX_VALUE};

    private TellingEdges() { }

    static void tell(Edges edges) {
        edges.sentence("Promise 1", "No kinds, parts, machines.", TellingEdges::newObject);
        edges.sentence("Promise 2", "A new KIND: its number; NONE when there are 10.", TellingEdges::tenKinds);
        edges.sentence("Promise 2", "IllegalArgumentException, when a number is not so.", TellingEdges::wrongKinds);
        edges.sentence("Promise 3", "A new PART: its number; NONE when there are 40.", TellingEdges::fortyParts);
        edges.sentence("Promise 3", "IndexOutOfBoundsException, when there is no such KIND;",
                TellingEdges::partsOfNoKind);
        edges.sentence("Promise 3", "IllegalArgumentException, when a number is not so.", TellingEdges::wrongParts);
        edges.sentence("Promise 4", "A new machine: its number; NONE when there are 3.", TellingEdges::threeMachines);
        edges.sentence("Promise 4", "IllegalArgumentException, when nozzles is not 0 .. 255, or trip not 1 .. 6.",
                TellingEdges::wrongMachines);
        tellFixed(edges);
        tellRefill(edges);
        tellReject(edges);
    }

    private static void tellFixed(Edges edges) {
        edges.sentence("Promise 5", "A KIND is FIXED at a slot: true; false, when it is FIXED already,",
                TellingEdges::fixedAlready);
        edges.sentence("Promise 5", "would not end within the slots,", TellingEdges::fixedBeyondTheSlots);
        edges.sentence("Promise 5", "or meet another FIXED one.", TellingEdges::fixedMeetings);
        edges.sentence("Promise 5", "IndexOutOfBoundsException, when there is no such KIND, or slot.",
                TellingEdges::fixedNowhere);
    }

    private static void tellRefill(Edges edges) {
        edges.sentence("Promise 13", "A KIND's feeder is refilled by n parts (0: it never is empty, as at first):"
                + " whether it was otherwise.", TellingEdges::refillOtherwise);
        edges.sentence("Promise 13", "IndexOutOfBoundsException, when there is no such KIND;",
                TellingEdges::refillOfNoKind);
        edges.sentence("Promise 13", "IllegalArgumentException, when n is below 0.", TellingEdges::refillBelowZero);
    }

    private static void tellReject(Edges edges) {
        edges.sentence("Promise 14", "Of a KIND's parts above out of below are REJECTED (at first 0 of 1): whether it"
                + " was otherwise (other numbers).", TellingEdges::rejectOtherwise);
        edges.sentence("Promise 14", "IndexOutOfBoundsException, when there is no such KIND;",
                TellingEdges::rejectOfNoKind);
        edges.sentence("Promise 14", "IllegalArgumentException, when below is not 1 .. 1,000,",
                TellingEdges::rejectOfWrongBelow);
        edges.sentence("Promise 14", "or above not 0 .. below - 1.", TellingEdges::rejectOfWrongAbove);
    }

    private static void newObject(Due due) {
        FeederOrders x = new FeederOrders(1L, 10);
        due.outOfBounds("part", () -> x.part(0, 0, 0, 0));
        due.outOfBounds("fixed", () -> x.fixed(0, 0));
        due.outOfBounds("slot", () -> x.slot(0, 0));
        due.outOfBounds("order", () -> x.order(0, 0));
        due.outOfBounds("trip", () -> x.trip(0, 0));
        due.outOfBounds("lower", () -> x.lower(0, 0));
        due.outOfBounds("refill", () -> x.refill(0, 0));
        due.outOfBounds("reject", () -> x.reject(0, 0, 1));
        due.outOfBounds("machineOf", () -> x.machineOf(0));
        due.outOfBounds("common", () -> x.common(0, 0));
        due.outOfBounds("changes", () -> x.changes(0));
        due.is("proved", x.proved(), true);
        due.is("bound", x.bound(), 0);
        due.is("improve", x.improve(200), 0);
        due.is("run", x.run(3, 200), 0);
        due.is("first kind", x.kind(1, 0), 0);
        due.is("first part", x.part(0, 0, 0, 0), 0);
        due.is("first machine", x.machine(0, 1), 0);
        FeederOrders other = new FeederOrders(1L, 10);
        due.outOfBounds("another object has none of these", () -> other.part(0, 0, 0, 0));
    }

    private static void tenKinds(Due due) {
        FeederOrders x = new FeederOrders(1L, 120);
        for (int k = 0; k < 10; k++) {
            due.is("kind", x.kind(4, 7), k);
        }
        due.is("the eleventh", x.kind(4, 7), NONE);
        due.is("the twelfth", x.kind(1, 0), NONE);
        due.outOfBounds("the eleventh is not there", () -> x.part(10, 0, 0, 0));
        due.is("the tenth is there", x.part(9, 0, 0, 0), 0);
        x.machine(128, 1);
        x.run(1, 0);
        due.is("the tenth is as it was told", x.machineOf(0), 0);
        due.is("and four wide still", x.fixed(9, 117), false);
        due.is("and four wide still", x.fixed(9, 116), true);
    }

    private static void wrongKinds(Due due) {
        FeederOrders x = Lines.settled();
        for (int width : new int[] {0, -1, 5, 6}) {
            due.illegal("width " + width, () -> x.kind(width, 0));
        }
        for (int nozzle : new int[] {-1, 8, 9}) {
            due.illegal("nozzle " + nozzle, () -> x.kind(1, nozzle));
        }
        for (int wild : WILD) {
            due.illegal("width " + wild, () -> x.kind(wild, 0));
            due.illegal("nozzle " + wild, () -> x.kind(1, wild));
            due.illegal("both " + wild, () -> x.kind(wild, wild));
        }
        due.is("afterwards", Lines.answers(x), Lines.answers(Lines.settled()));
        FeederOrders full = new FeederOrders(1L, 10);
        for (int k = 0; k < 10; k++) {
            full.kind(1, 0);
        }
        due.illegal("a wrong width when there are 10", () -> full.kind(0, 0));
        due.illegal("a wrong nozzle when there are 10", () -> full.kind(1, 8));
    }

    private static void fortyParts(Due due) {
        FeederOrders x = Lines.oneMachine(1L, 6, 0, 0);
        for (int p = 0; p < 40; p++) {
            due.is("part", x.part(p == 39 ? 1 : 0, p, 0, 0), p);
        }
        due.is("the 41st", x.part(0, 0, 0, 0), NONE);
        due.is("the 42nd", x.part(1, 100000, 100000, 10000), NONE);
        due.outOfBounds("the 41st is not there", () -> x.trip(0, 40));
        x.run(1, 0);
        due.is("forty are placed", x.order(0, 39) != NONE && x.order(0, 40) == NONE, true);
        due.is("the fortieth is placed", x.trip(0, 39), 6);
    }

    private static void partsOfNoKind(Due due) {
        FeederOrders x = Lines.settled();
        for (int kind : new int[] {-1, 3, 9, 10}) {
            due.outOfBounds("kind " + kind, () -> x.part(kind, 0, 0, 0));
        }
        for (int wild : WILD) {
            due.outOfBounds("kind " + wild, () -> x.part(wild, 0, 0, 0));
        }
        due.outOfBounds("no kind and a wrong place", () -> x.part(3, -1, 0, 0));
        due.is("afterwards", Lines.answers(x), Lines.answers(Lines.settled()));
        FeederOrders full = Lines.oneMachine(1L, 6, 0);
        Lines.addParts(full, 0, 40);
        due.outOfBounds("no kind when there are 40", () -> full.part(1, 0, 0, 0));
    }

    private static void wrongParts(Due due) {
        FeederOrders x = Lines.settled();
        for (long place : new long[] {-1, 100001, 100002}) {
            due.illegal("x " + place, () -> x.part(0, place, 0, 0));
            due.illegal("y " + place, () -> x.part(0, 0, place, 0));
        }
        for (long height : new long[] {-1, 10001, 100000}) {
            due.illegal("height " + height, () -> x.part(0, 0, 0, height));
        }
        for (long wild : WILD_LONGS) {
            due.illegal("x " + wild, () -> x.part(0, wild, 0, 0));
            due.illegal("y " + wild, () -> x.part(0, 0, wild, 0));
            due.illegal("height " + wild, () -> x.part(0, 0, 0, wild));
        }
        due.is("afterwards", Lines.answers(x), Lines.answers(Lines.settled()));
        FeederOrders full = Lines.oneMachine(1L, 6, 0);
        Lines.addParts(full, 0, 40);
        due.illegal("a wrong place when there are 40", () -> full.part(0, 100001, 0, 0));
    }

    private static void threeMachines(Due due) {
        FeederOrders x = new FeederOrders(1L, 10);
        for (int m = 0; m < 3; m++) {
            due.is("machine", x.machine(m == 2 ? 1 : 0, 6), m);
        }
        due.is("the fourth", x.machine(255, 1), NONE);
        due.is("the fifth", x.machine(0, 1), NONE);
        due.outOfBounds("the fourth is not there", () -> x.changes(3));
        due.is("the third is there", x.changes(2), 0);
        Lines.addKinds(x, 2);
        x.run(3, 0);
        due.is("the third is as it was told", Lines.trips(x, 2, 2), "0 0");
    }

    private static void wrongMachines(Due due) {
        FeederOrders x = Lines.settled();
        for (int nozzles : new int[] {-1, 256, 257, 511}) {
            due.illegal("nozzles " + nozzles, () -> x.machine(nozzles, 1));
        }
        for (int trip : new int[] {-1, 0, 7, 8}) {
            due.illegal("trip " + trip, () -> x.machine(1, trip));
        }
        for (int wild : WILD) {
            due.illegal("nozzles " + wild, () -> x.machine(wild, 1));
            due.illegal("trip " + wild, () -> x.machine(1, wild));
        }
        due.is("afterwards", Lines.answers(x), Lines.answers(Lines.settled()));
        FeederOrders full = new FeederOrders(1L, 10);
        for (int m = 0; m < 3; m++) {
            full.machine(m == 0 ? 0 : 255, m == 0 ? 1 : 6);
        }
        due.illegal("wrong nozzles when there are 3", () -> full.machine(256, 1));
        due.illegal("a wrong trip when there are 3", () -> full.machine(0, 7));
    }

    /** Ten slots, and kinds of widths 1 to 4. */
    private static FeederOrders widths() {
        FeederOrders x = new FeederOrders(1L, 10);
        x.machine(1, 6);
        for (int width = 1; width <= 4; width++) {
            x.kind(width, 0);
            x.part(width - 1, 0, 0, 0);
        }
        return x;
    }

    private static void fixedAlready(Due due) {
        FeederOrders x = widths();
        due.is("at first", x.fixed(0, 3), true);
        due.is("at another slot", x.fixed(0, 4), false);
        due.is("at the same slot", x.fixed(0, 3), false);
        due.is("after a refusal another kind still finds that slot", x.fixed(1, 4), true);
        x.run(1, 0);
        due.is("after a run", x.fixed(0, 9), false);
        due.is("where it was fixed first", x.slot(0, 0), 3);
    }

    private static void fixedBeyondTheSlots(Due due) {
        for (int width = 1; width <= 4; width++) {
            FeederOrders x = widths();
            int kind = width - 1;
            for (int slot = 11 - width; slot < 10; slot++) {
                due.is("width " + width + " at " + slot, x.fixed(kind, slot), false);
            }
            due.is("width " + width + " up to the last slot", x.fixed(kind, 10 - width), true);
            FeederOrders y = widths();
            due.is("width " + width + " from the first slot", y.fixed(kind, 0), true);
        }
        FeederOrders narrow = new FeederOrders(1L, 3);
        narrow.kind(4, 0);
        due.is("wider than all slots", narrow.fixed(0, 0), false);
        FeederOrders just = new FeederOrders(1L, 4);
        just.kind(4, 0);
        due.is("as wide as all slots", just.fixed(0, 0), true);
    }

    /** Width 3 stands at 4 .. 6; each other width is tried at every slot. */
    private static void fixedMeetings(Due due) {
        int[][] free = {{0, 1, 2, 3, 7, 8, 9}, {0, 1, 2, 7, 8}, {}, {0}};
        for (int kind : new int[] {0, 1, 3}) {
            for (int slot = 0; slot < 10; slot++) {
                FeederOrders x = widths();
                x.fixed(2, 4);
                boolean room = false;
                for (int each : free[kind]) {
                    room |= each == slot;
                }
                due.is("width " + (kind + 1) + " at " + slot, x.fixed(kind, slot), room);
                // A refused one is not fixed, and may be told again.
                due.is("width " + (kind + 1) + " then at 0", x.fixed(kind, 0), !room);
            }
        }
        FeederOrders apart = new FeederOrders(1L, 4);
        apart.kind(4, 0);
        apart.kind(4, 1);
        apart.fixed(0, 0);
        due.is("meets one that no machine could have beside it", apart.fixed(1, 0), false);
    }

    private static void fixedNowhere(Due due) {
        FeederOrders x = Lines.settled();
        for (int number : new int[] {-1, 3, 9, 10}) {
            due.outOfBounds("kind " + number, () -> x.fixed(number, 0));
        }
        for (int slot : new int[] {-1, 6, 7, 119, 120}) {
            due.outOfBounds("slot " + slot, () -> x.fixed(0, slot));
            due.outOfBounds("slot " + slot + " of a kind that is fixed already", () -> x.fixed(1, slot));
        }
        for (int wild : WILD) {
            due.outOfBounds("kind " + wild, () -> x.fixed(wild, 0));
            due.outOfBounds("slot " + wild, () -> x.fixed(0, wild));
        }
        due.is("afterwards", Lines.answers(x), Lines.answers(Lines.settled()));
    }

    private static void refillOtherwise(Due due) {
        FeederOrders x = Lines.oneMachine(1L, 6, 0, 0);
        Lines.addParts(x, 0, 3);
        due.is("0, as at first", x.refill(0, 0), false);
        due.is("never empty", x.run(1, 0), 6);
        due.is("1", x.refill(0, 1), true);
        due.is("1 again", x.refill(0, 1), false);
        due.is("another kind is as at first", x.refill(1, 0), false);
        due.is("by 1", x.run(1, 0), 6 + 100);
        due.is("greatest", x.refill(0, Integer.MAX_VALUE), true);
        due.is("greatest again", x.refill(0, Integer.MAX_VALUE), false);
        due.is("0 once more", x.refill(0, 0), true);
        due.is("never empty once more", x.run(1, 0), 6);
        due.is("0 again", x.refill(0, 0), false);
    }

    private static void refillOfNoKind(Due due) {
        FeederOrders x = Lines.settled();
        for (int kind : new int[] {-1, 3, 9, 10}) {
            due.outOfBounds("kind " + kind, () -> x.refill(kind, 1));
        }
        for (int wild : WILD) {
            due.outOfBounds("kind " + wild, () -> x.refill(wild, 1));
        }
        due.outOfBounds("no kind and n below 0", () -> x.refill(3, -1));
        due.is("afterwards", Lines.answers(x), Lines.answers(Lines.settled()));
    }

    private static void refillBelowZero(Due due) {
        FeederOrders x = Lines.settled();
        for (int n : new int[] {-1, -2, Integer.MIN_VALUE + 1, Integer.MIN_VALUE}) {
            due.illegal("n " + n, () -> x.refill(1, n));
        }
        due.is("it stays as it was", x.refill(1, 2), false);
        due.is("afterwards", Lines.answers(x), Lines.answers(Lines.settled()));
    }

    private static void rejectOtherwise(Due due) {
        FeederOrders x = Lines.oneMachine(1L, 6, 0, 0);
        due.is("0 of 1, as at first", x.reject(0, 0, 1), false);
        due.is("0 of 2 are other numbers", x.reject(0, 0, 2), true);
        due.is("0 of 2 again", x.reject(0, 0, 2), false);
        due.is("1 of 2", x.reject(0, 1, 2), true);
        due.is("2 of 4 are other numbers", x.reject(0, 2, 4), true);
        due.is("2 of 5 is another below alone", x.reject(0, 2, 5), true);
        due.is("3 of 5 is another above alone", x.reject(0, 3, 5), true);
        due.is("3 of 5 again", x.reject(0, 3, 5), false);
        due.is("another kind is as at first", x.reject(1, 0, 1), false);
        due.is("greatest", x.reject(0, 999, 1000), true);
        due.is("greatest again", x.reject(0, 999, 1000), false);
        due.is("0 of 1 once more", x.reject(0, 0, 1), true);
    }

    private static void rejectOfNoKind(Due due) {
        FeederOrders x = Lines.settled();
        for (int kind : new int[] {-1, 3, 9, 10}) {
            due.outOfBounds("kind " + kind, () -> x.reject(kind, 0, 1));
        }
        for (int wild : WILD) {
            due.outOfBounds("kind " + wild, () -> x.reject(wild, 0, 1));
        }
        due.outOfBounds("no kind and wrong numbers", () -> x.reject(3, 5, 0));
        due.is("afterwards", Lines.answers(x), Lines.answers(Lines.settled()));
    }

    private static void rejectOfWrongBelow(Due due) {
        FeederOrders x = Lines.settled();
        for (long below : new long[] {0, -1, 1001, 1002}) {
            due.illegal("below " + below, () -> x.reject(0, 0, below));
            due.illegal("above and below " + below, () -> x.reject(0, below, below));
        }
        for (long wild : WILD_LONGS) {
            due.illegal("below " + wild, () -> x.reject(0, 0, wild));
            due.illegal("below " + wild + ", above one less", () -> x.reject(0, wild - 1, wild));
        }
        due.is("it stays as it was", x.reject(0, 1, 3), false);
        due.is("1 .. 1,000", x.reject(0, 0, 1) && x.reject(0, 0, 1000), true);
        x.reject(0, 1, 3);
        due.is("afterwards", Lines.answers(x), Lines.answers(Lines.settled()));
    }

    private static void rejectOfWrongAbove(Due due) {
        FeederOrders x = Lines.settled();
        for (long below : new long[] {1, 2, 999, 1000}) {
            for (long above : new long[] {-1, below, below + 1}) {
                due.illegal(above + " of " + below, () -> x.reject(0, above, below));
            }
            for (long wild : WILD_LONGS) {
                due.illegal(wild + " of " + below, () -> x.reject(0, wild, below));
            }
        }
        due.is("it stays as it was", x.reject(0, 1, 3), false);
        due.is("afterwards", Lines.answers(x), Lines.answers(Lines.settled()));
        due.is("below - 1", x.reject(0, 1, 2) && x.reject(0, 998, 999), true);
    }
}
