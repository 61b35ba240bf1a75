/** Promises 1 to 5, 13 and 14: what is told, its edges, and what is refused. */
public final class TellingTest {
    private static final Due due = new Due();

    public static void main(String[] args) {
        newObject();
        kinds();
        parts();
        machines();
        fixedKinds();
        slotsAreKeptWithinLimits();
        refills();
        rejects();
        due.end();
    }

    private static void newObject() {
        FeederOrders x = new FeederOrders(5L, 10);
        due.outOfBounds("1: no kind", () -> x.part(0, 0, 0, 0));
        due.outOfBounds("1: no part", () -> x.machineOf(0));
        due.outOfBounds("1: no machine", () -> x.order(0, 0));
        due.is("1: run", x.run(3, 200), 0);
        due.is("1: proved", x.proved(), true);
        due.is("1: bound", x.bound(), 0);
        due.is("1: improve", x.improve(200), 0);
    }

    private static void kinds() {
        FeederOrders x = new FeederOrders(5L, 10);
        for (int width : new int[] {0, 5, -1, Integer.MAX_VALUE, Integer.MIN_VALUE}) {
            due.illegal("2: width " + width, () -> x.kind(width, 0));
        }
        for (int nozzle : new int[] {-1, 8, Integer.MAX_VALUE, Integer.MIN_VALUE}) {
            due.illegal("2: nozzle " + nozzle, () -> x.kind(1, nozzle));
        }
        for (int k = 0; k < 10; k++) {
            due.is("2: kind", x.kind(k % 4 + 1, k % 8), k);
        }
        due.is("2: the eleventh", x.kind(1, 0), FeederOrders.NONE);
        due.illegal("2: a wrong eleventh", () -> x.kind(0, 0));
        due.is("2: the tenth is there", x.refill(9, 1), true);
        due.outOfBounds("2: the eleventh is not", () -> x.refill(10, 1));
    }

    private static void parts() {
        FeederOrders x = new FeederOrders(5L, 10);
        due.outOfBounds("3: no kind", () -> x.part(0, 0, 0, 0));
        x.kind(1, 0);
        due.outOfBounds("3: kind 1", () -> x.part(1, 0, 0, 0));
        due.outOfBounds("3: kind -1", () -> x.part(-1, 0, 0, 0));
        due.outOfBounds("3: the kind is looked at first", () -> x.part(1, -1, -1, -1));
        for (long place : new long[] {-1, 100001, Long.MAX_VALUE, Long.MIN_VALUE, 1L << 32}) {
            due.illegal("3: x " + place, () -> x.part(0, place, 0, 0));
            due.illegal("3: y " + place, () -> x.part(0, 0, place, 0));
        }
        for (long height : new long[] {-1, 10001, Long.MAX_VALUE, Long.MIN_VALUE, 1L << 32}) {
            due.illegal("3: height " + height, () -> x.part(0, 0, 0, height));
        }
        due.is("3: the greatest", x.part(0, 100000, 100000, 10000), 0);
        for (int p = 1; p < 40; p++) {
            due.is("3: part", x.part(0, 0, 0, 0), p);
        }
        due.is("3: one too many", x.part(0, 0, 0, 0), FeederOrders.NONE);
        due.illegal("3: a wrong one too many", () -> x.part(0, 0, 0, -1));
        due.outOfBounds("3: no part 40", () -> x.machineOf(40));
        due.is("3: part 39", x.machineOf(39), FeederOrders.NONE);
    }

    private static void machines() {
        FeederOrders x = new FeederOrders(5L, 10);
        for (int nozzles : new int[] {-1, 256, Integer.MAX_VALUE, Integer.MIN_VALUE}) {
            due.illegal("4: nozzles " + nozzles, () -> x.machine(nozzles, 1));
        }
        for (int trip : new int[] {0, -1, 7, Integer.MAX_VALUE, Integer.MIN_VALUE}) {
            due.illegal("4: trip " + trip, () -> x.machine(1, trip));
        }
        due.is("4: first", x.machine(0, 1), 0);
        due.is("4: second", x.machine(255, 6), 1);
        due.outOfBounds("4: no third yet", () -> x.order(2, 0));
        due.is("4: third", x.machine(1, 3), 2);
        due.is("4: fourth", x.machine(1, 3), FeederOrders.NONE);
        due.illegal("4: a wrong fourth", () -> x.machine(256, 3));
        due.outOfBounds("4: no fourth", () -> x.order(3, 0));
    }

    private static void fixedKinds() {
        FeederOrders x = new FeederOrders(5L, 10);
        due.outOfBounds("5: no kind", () -> x.fixed(0, 0));
        x.kind(3, 0);
        x.kind(2, 0);
        x.kind(4, 0);
        x.kind(1, 0);
        due.outOfBounds("5: kind 4", () -> x.fixed(4, 0));
        due.outOfBounds("5: kind -1", () -> x.fixed(-1, 0));
        due.outOfBounds("5: slot 10", () -> x.fixed(0, 10));
        due.outOfBounds("5: slot -1", () -> x.fixed(0, -1));
        due.outOfBounds("5: greatest slot", () -> x.fixed(0, Integer.MAX_VALUE));
        due.is("5: beyond the end", x.fixed(0, 8), false);
        due.is("5: up to the end", x.fixed(0, 7), true);
        due.is("5: again", x.fixed(0, 0), false);
        due.outOfBounds("5: again, at no slot", () -> x.fixed(0, 10));
        due.is("5: meets at its end", x.fixed(1, 6), false);
        due.is("5: meets at its beginning", x.fixed(3, 9), false);
        due.is("5: meets within", x.fixed(2, 6), false);
        due.is("5: right before", x.fixed(1, 5), true);
        due.is("5: over the other", x.fixed(2, 2), false);
        due.is("5: right before, too", x.fixed(2, 1), true);
        due.is("5: the one left", x.fixed(3, 0), true);
    }

    private static void slotsAreKeptWithinLimits() {
        for (int told : new int[] {Integer.MIN_VALUE, -1, 0, 1}) {
            FeederOrders x = new FeederOrders(5L, told);
            x.kind(1, 0);
            due.outOfBounds("1: slot 1 of " + told, () -> x.fixed(0, 1));
            due.is("1: slot 0 of " + told, x.fixed(0, 0), true);
        }
        for (int told : new int[] {120, 121, Integer.MAX_VALUE}) {
            FeederOrders x = new FeederOrders(5L, told);
            x.kind(1, 0);
            due.outOfBounds("1: slot 120 of " + told, () -> x.fixed(0, 120));
            due.is("1: slot 119 of " + told, x.fixed(0, 119), true);
        }
    }

    private static void refills() {
        FeederOrders x = new FeederOrders(5L, 10);
        due.outOfBounds("13: no kind", () -> x.refill(0, 1));
        x.kind(1, 0);
        due.outOfBounds("13: the kind is looked at first", () -> x.refill(1, -1));
        due.outOfBounds("13: kind -1", () -> x.refill(-1, 1));
        due.illegal("13: -1", () -> x.refill(0, -1));
        due.illegal("13: lowest", () -> x.refill(0, Integer.MIN_VALUE));
        due.is("13: 0 at first", x.refill(0, 0), false);
        due.is("13: 5", x.refill(0, 5), true);
        due.is("13: 5 again", x.refill(0, 5), false);
        due.is("13: greatest", x.refill(0, Integer.MAX_VALUE), true);
        due.is("13: 0", x.refill(0, 0), true);
    }

    private static void rejects() {
        FeederOrders x = new FeederOrders(5L, 10);
        due.outOfBounds("14: no kind", () -> x.reject(0, 0, 1));
        x.kind(1, 0);
        due.outOfBounds("14: the kind is looked at first", () -> x.reject(1, -1, 0));
        due.outOfBounds("14: kind -1", () -> x.reject(-1, 0, 1));
        for (long below : new long[] {0, -1, 1001, Long.MAX_VALUE, Long.MIN_VALUE, (1L << 32) + 1}) {
            due.illegal("14: below " + below, () -> x.reject(0, 0, below));
        }
        for (long above : new long[] {-1, 3, 4, Long.MAX_VALUE, Long.MIN_VALUE, 1L << 32}) {
            due.illegal("14: above " + above, () -> x.reject(0, above, 3));
        }
        due.is("14: 0 of 1 at first", x.reject(0, 0, 1), false);
        due.is("14: other numbers, the same share", x.reject(0, 0, 2), true);
        due.is("14: 1 of 2", x.reject(0, 1, 2), true);
        due.is("14: 1 of 2 again", x.reject(0, 1, 2), false);
        due.is("14: 2 of 4", x.reject(0, 2, 4), true);
        due.is("14: 999 of 1000", x.reject(0, 999, 1000), true);
    }
}
