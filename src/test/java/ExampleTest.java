/** The example of README.md, with the answers that it names: who changes one of them changes both. */
public final class ExampleTest {
    private ExampleTest() { }

    public static void main(String[] args) {
        Due due = new Due();
        FeederOrders line = new FeederOrders(7L, 20);
        int wide = line.kind(2, 0);
        int slim = line.kind(1, 1);
        due.is("machine", line.machine(0b11, 2), 0);
        due.is("part 0", line.part(wide, 100, 50, 3), 0);
        due.is("part 1", line.part(slim, 40, 80, 3), 1);
        due.is("part 2", line.part(wide, 10, 10, 5), 2);
        due.is("fixed", line.fixed(wide, 6), true);
        due.is("reject", line.reject(slim, 1, 2), true);
        due.is("refill", line.refill(wide, 1), true);
        due.is("run", line.run(1, 50), 358);
        due.is("slot of wide", line.slot(0, wide), 6);
        due.is("slot of slim", line.slot(0, slim), 0);
        due.is("order", Lines.order(line, 0), "0 1 2");
        due.is("trip", line.trip(0, 2), 1);
        due.is("machineOf", line.machineOf(2), 0);
        due.is("lower", line.lower(0, 2), true);
        due.is("changes", line.changes(0), 2);
        due.is("proved", line.proved(), false);
        due.is("bound", line.bound(), 78);
        due.is("common", line.common(0, 0), true);
        due.is("improve", line.improve(100), 0);
        due.end();
    }
}
