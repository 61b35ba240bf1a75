import java.util.Random;

/** Random runs of calls, each answered by the class and by the plain model: all promises together. */
public final class RandomRunsTest {
    private static final int RUNS = 1200;

    private static final Due due = new Due();

    private interface Call {
        Object answer();
    }

    /** What decides how a run looks: how crowded its slots, heights and places are. */
    private record Look(int calls, int slots, int places, int heights, int nozzles, int trip, boolean wild) { }

    public static void main(String[] args) {
        for (int run = 0; run < RUNS; run++) {
            Random random = new Random(run);
            oneRun(run, random, new Look(60 + random.nextInt(120), pick(random, 1, 6, 14, 120),
                    pick(random, 3, 30, 100000), pick(random, 0, 1, 4), pick(random, 1, 2, 8),
                    pick(random, 1, 3, 6), random.nextInt(4) == 0));
        }
        due.end();
    }

    private static int pick(Random random, int... choices) {
        return choices[random.nextInt(choices.length)];
    }

    private static void oneRun(int run, Random random, Look look) {
        long seed = random.nextBoolean() ? random.nextInt(5) : random.nextLong();
        FeederOrders real = new FeederOrders(seed, look.slots);
        PlainModel model = new PlainModel(seed, look.slots);
        if (run % 8 == 0) {
            fill(run, random, look, real, model);
        }
        for (int i = 0; i < look.calls; i++) {
            // Early calls mostly build, later ones mostly ask.
            int what = i < 45 && random.nextInt(5) > 0 ? random.nextInt(7) : random.nextInt(22);
            oneCall(run, what, random, look, real, model);
        }
    }

    /** As many kinds, parts and machines as there can be. */
    private static void fill(int run, Random random, Look look, FeederOrders real, PlainModel model) {
        for (int i = 0; i < 11; i++) {
            oneCall(run, 0, random, look, real, model);
        }
        for (int i = 0; i < 41; i++) {
            oneCall(run, 2, random, look, real, model);
        }
        for (int i = 0; i < 4; i++) {
            oneCall(run, 1, random, look, real, model);
        }
    }

    private static int number(Random random, Look look, int most) {
        if (look.wild && random.nextInt(6) == 0) {
            return pick(random, -1, most + 1, most + 2, Integer.MAX_VALUE, Integer.MIN_VALUE);
        }
        return most <= 0 ? 0 : random.nextInt(most + 1);
    }

    private static void oneCall(int run, int what, Random random, Look look, FeederOrders r, PlainModel m) {
        int a = number(random, look, 9);
        int b = number(random, look, 39);
        int c = number(random, look, 39);
        int h = number(random, look, 2);
        int g = number(random, look, 2);
        switch (what) {
            case 0 -> {
                int width = number(random, look, 3) + 1;
                int nozzle = number(random, look, look.nozzles - 1);
                same(run, "kind " + width + " " + nozzle, () -> r.kind(width, nozzle), () -> m.kind(width, nozzle));
            }
            case 1 -> {
                int bits = random.nextInt(3) == 0 ? 255 : number(random, look, 255);
                int trip = number(random, look, look.trip - 1) + 1;
                same(run, "machine " + bits + " " + trip, () -> r.machine(bits, trip), () -> m.machine(bits, trip));
            }
            case 2, 3, 4, 5 -> {
                int x = number(random, look, look.places);
                int y = number(random, look, look.places);
                int height = number(random, look, look.heights);
                int kind = random.nextInt(3) > 0 ? number(random, look, 3) : a;
                same(run, "part " + kind + " " + x + " " + y + " " + height,
                        () -> r.part(kind, x, y, height), () -> m.part(kind, x, y, height));
            }
            case 6 -> {
                int slot = number(random, look, look.slots - 1);
                same(run, "fixed " + a + " " + slot, () -> r.fixed(a, slot), () -> m.fixed(a, slot));
            }
            case 7 -> {
                int n = pick(random, 0, 1, 2, 3, number(random, look, 60));
                same(run, "refill " + a + " " + n, () -> r.refill(a, n), () -> m.refill(a, n));
            }
            case 8 -> {
                long below = random.nextBoolean() ? number(random, look, 4) : number(random, look, 1000);
                long above = random.nextBoolean() ? number(random, look, 2) : number(random, look, (int) Math.min(1000, below));
                same(run, "reject " + a + " " + above + " " + below,
                        () -> r.reject(a, above, below), () -> m.reject(a, above, below));
            }
            case 9, 10, 11 -> {
                int machines = number(random, look, 3);
                int steps = random.nextBoolean() ? 0 : number(random, look, 40);
                same(run, "run " + machines + " " + steps, () -> r.run(machines, steps), () -> m.run(machines, steps));
                wholeState(run, r, m);
            }
            case 12, 13 -> {
                int steps = number(random, look, 40);
                same(run, "improve " + steps, () -> r.improve(steps), () -> m.improve(steps));
                wholeState(run, r, m);
            }
            case 14 -> same(run, "slot " + h + " " + a, () -> r.slot(h, a), () -> m.slot(h, a));
            case 15 -> same(run, "order " + h + " " + b, () -> r.order(h, b), () -> m.order(h, b));
            case 16 -> same(run, "trip " + h + " " + b, () -> r.trip(h, b), () -> m.trip(h, b));
            case 17 -> same(run, "lower " + b + " " + c, () -> r.lower(b, c), () -> m.lower(b, c));
            case 18 -> same(run, "machineOf " + b, () -> r.machineOf(b), () -> m.machineOf(b));
            case 19 -> same(run, "common " + g + " " + h, () -> r.common(g, h), () -> m.common(g, h));
            case 20 -> same(run, "changes " + h, () -> r.changes(h), () -> m.changes(h));
            default -> same(run, "bound", () -> r.bound(), () -> m.bound());
        }
    }

    private static void wholeState(int run, FeederOrders r, PlainModel m) {
        same(run, "bound", () -> r.bound(), () -> m.bound());
        same(run, "proved", () -> r.proved(), () -> m.proved());
        for (int i = 0; i < 3; i++) {
            int h = i;
            same(run, "changes " + h, () -> r.changes(h), () -> m.changes(h));
            for (int j = 0; j < 40; j++) {
                int k = j;
                same(run, "order " + h + " " + k, () -> r.order(h, k), () -> m.order(h, k));
                same(run, "trip " + h + " " + k, () -> r.trip(h, k), () -> m.trip(h, k));
            }
            for (int j = 0; j < 10; j++) {
                int k = j;
                same(run, "slot " + h + " " + k, () -> r.slot(h, k), () -> m.slot(h, k));
            }
        }
    }

    private static void same(int run, String call, Call real, Call model) {
        due.is("run " + run + ": " + call, told(real), told(model));
    }

    private static String told(Call call) {
        try {
            return String.valueOf(call.answer());
        } catch (RuntimeException e) {
            return e.getClass().getName();
        }
    }
}
