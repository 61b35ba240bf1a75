import java.util.StringJoiner;

/** Small lines of machines that several tests begin with, and their answers as texts. */
final class Lines {
    private Lines() { }

    /** One machine with every nozzle, and kinds one slot wide with the nozzles told. */
    static FeederOrders oneMachine(long seed, int carried, int... nozzles) {
        FeederOrders x = new FeederOrders(seed, 20);
        x.machine(255, carried);
        for (int nozzle : nozzles) {
            x.kind(1, nozzle);
        }
        return x;
    }

    static void addParts(FeederOrders x, int kind, int count) {
        for (int i = 0; i < count; i++) {
            x.part(kind, 0, 0, 0);
        }
    }

    /** Kinds of nozzle 0, one slot wide, with so many parts each. */
    static void addKinds(FeederOrders x, int... amounts) {
        for (int amount : amounts) {
            addParts(x, x.kind(1, 0), amount);
        }
    }

    static String order(FeederOrders x, int machine) {
        StringJoiner row = new StringJoiner(" ");
        for (int k = 0; k < 41 && x.order(machine, k) != FeederOrders.NONE; k++) {
            row.add(String.valueOf(x.order(machine, k)));
        }
        return row.toString();
    }

    static String slots(FeederOrders x, int machine, int kinds) {
        StringJoiner row = new StringJoiner(" ");
        for (int k = 0; k < kinds; k++) {
            row.add(String.valueOf(x.slot(machine, k)));
        }
        return row.toString();
    }

    static String trips(FeederOrders x, int machine, int parts) {
        StringJoiner row = new StringJoiner(" ");
        for (int p = 0; p < parts; p++) {
            row.add(String.valueOf(x.trip(machine, p)));
        }
        return row.toString();
    }

    static String machinesOf(FeederOrders x, int parts) {
        StringJoiner row = new StringJoiner(" ");
        for (int p = 0; p < parts; p++) {
            row.add(String.valueOf(x.machineOf(p)));
        }
        return row.toString();
    }

    /**
     * As many kinds, parts and machines as there can be, after a run of all: part p is of kind p mod 10, and kind k
     * needs nozzle k mod 8, of which no machine has the last one. So kinds 0, 1, 2 go to machine 0, kinds 3, 4, 5 to
     * machine 1, kinds 6, 8, 9 to machine 2, twelve parts each, and kind 7 to none.
     */
    static FeederOrders full() {
        FeederOrders x = new FeederOrders(1L, 120);
        for (int k = 0; k < 10; k++) {
            x.kind(4, k % 8);
        }
        for (int m = 0; m < 3; m++) {
            x.machine(127, 6);
        }
        for (int p = 0; p < 40; p++) {
            x.part(p % 10, 0, 0, p);
        }
        x.run(3, 0);
        return x;
    }

    /** Three kinds, seven parts and two of the three machines, after a run: something is there to be disturbed. */
    static FeederOrders settled() {
        FeederOrders x = new FeederOrders(77L, 6);
        x.kind(2, 0);
        x.kind(1, 1);
        x.kind(3, 0);
        x.fixed(1, 1);
        x.machine(3, 2);
        x.machine(1, 3);
        int[] kinds = {0, 1, 0, 1, 1, 2, 2};
        for (int p = 0; p < kinds.length; p++) {
            x.part(kinds[p], 10 * (p * 3 % 7), 10 * (p * 5 % 7), p % 2);
        }
        x.reject(0, 1, 3);
        x.refill(1, 2);
        x.run(2, 1);
        return x;
    }

    /** Every answer of a settled line, and of what it does next: alike for two lines that stand alike. */
    static String answers(FeederOrders x) {
        StringJoiner all = new StringJoiner("; ");
        all.add(questions(x)).add("improve " + x.improve(40)).add(questions(x));
        all.add("run " + x.run(3, 40)).add(questions(x));
        // The numbers of the next ones tell how many there were.
        all.add("kind " + x.kind(1, 1)).add("part " + x.part(0, 1, 1, 1)).add("machine " + x.machine(255, 6));
        for (int k = 0; k < 4; k++) {
            all.add("refill " + x.refill(k, 0)).add("reject " + x.reject(k, 0, 1));
        }
        for (int k = 0; k < 4; k++) {
            all.add("fixed " + x.fixed(k, 3));
        }
        return all.toString();
    }

    private static String questions(FeederOrders x) {
        StringJoiner all = new StringJoiner("; ");
        for (int m = 0; m < 2; m++) {
            all.add(order(x, m)).add(slots(x, m, 3)).add(trips(x, m, 7)).add("changes " + x.changes(m));
        }
        all.add(machinesOf(x, 7)).add("lower " + x.lower(0, 1)).add("common " + x.common(0, 1));
        return all.add("proved " + x.proved()).add("bound " + x.bound()).toString();
    }
}
