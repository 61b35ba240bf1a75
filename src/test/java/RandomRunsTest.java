import java.util.Random;

/**
 * Random runs of calls, each answered by the class and by the plain model: all promises together. Each object is used
 * for 512 calls, as many as the document lets it be.
 */
public final class RandomRunsTest {
    private static final int RUNS = 3000;
    private static final int MOST_CALLS = 512;
    /** What one look at the whole state takes at most: see wholeState. */
    private static final int LOOK_CALLS = 120;

    private static final Due due = new Due();

    private interface Call {
        Object answer();
    }

    /** What decides how a run looks: how crowded its slots, heights and places are. */
    private record Look(int changing, int slots, int places, int heights, int nozzles, int trip, boolean wild) { }

    private final int run;
    private final Random random;
    private final Look look;
    private final FeederOrders r;
    private final PlainModel m;
    private int calls = 0;

    private RandomRunsTest(int run) {
        this.run = run;
        random = new Random(run);
        look = new Look(60 + random.nextInt(120), pick(1, 6, 14, 120), pick(3, 30, 100000), pick(0, 1, 4),
                pick(1, 2, 8), pick(1, 3, 6), random.nextInt(4) == 0);
        long seed = random.nextBoolean() ? random.nextInt(5) : random.nextLong();
        r = new FeederOrders(seed, look.slots);
        m = new PlainModel(seed, look.slots);
    }

    public static void main(String[] args) {
        for (int run = 0; run < RUNS; run++) {
            new RandomRunsTest(run).wholeRun();
        }
        due.end();
    }

    private int pick(int... choices) {
        return choices[random.nextInt(choices.length)];
    }

    private void wholeRun() {
        if (run % 8 == 0) {
            fill();
        }
        for (int i = 0; i < look.changing && calls + 1 + LOOK_CALLS < MOST_CALLS; i++) {
            // Early calls mostly build, later ones mostly ask.
            oneCall(i < 45 && random.nextInt(5) > 0 ? random.nextInt(7) : random.nextInt(22));
        }
        while (calls < MOST_CALLS) {
            oneCall(14 + random.nextInt(8));
        }
    }

    /** As many kinds, parts and machines as there can be. */
    private void fill() {
        for (int i = 0; i < 11; i++) {
            oneCall(0);
        }
        for (int i = 0; i < 41; i++) {
            oneCall(2);
        }
        for (int i = 0; i < 4; i++) {
            oneCall(1);
        }
    }

    private int number(int most) {
        if (look.wild && random.nextInt(6) == 0) {
            return pick(-1, most + 1, most + 2, Integer.MAX_VALUE, Integer.MIN_VALUE);
        }
        return most <= 0 ? 0 : random.nextInt(most + 1);
    }

    private void oneCall(int what) {
        int a = number(9);
        int b = number(39);
        int c = number(39);
        int h = number(2);
        int g = number(2);
        switch (what) {
            case 0 -> {
                int width = number(3) + 1;
                int nozzle = number(look.nozzles - 1);
                same("kind " + width + " " + nozzle, () -> r.kind(width, nozzle), () -> m.kind(width, nozzle));
            }
            case 1 -> {
                int bits = random.nextInt(3) == 0 ? 255 : number(255);
                int trip = number(look.trip - 1) + 1;
                same("machine " + bits + " " + trip, () -> r.machine(bits, trip), () -> m.machine(bits, trip));
            }
            case 2, 3, 4, 5 -> {
                int x = number(look.places);
                int y = number(look.places);
                int height = number(look.heights);
                int kind = random.nextInt(3) > 0 ? number(3) : a;
                same("part " + kind + " " + x + " " + y + " " + height,
                        () -> r.part(kind, x, y, height), () -> m.part(kind, x, y, height));
            }
            case 6 -> {
                int slot = number(look.slots - 1);
                same("fixed " + a + " " + slot, () -> r.fixed(a, slot), () -> m.fixed(a, slot));
            }
            case 7 -> {
                int n = pick(0, 1, 2, 3, number(60));
                same("refill " + a + " " + n, () -> r.refill(a, n), () -> m.refill(a, n));
            }
            case 8 -> {
                long below = random.nextBoolean() ? number(4) : number(1000);
                long above = random.nextBoolean() ? number(2) : number((int) Math.min(1000, below));
                same("reject " + a + " " + above + " " + below,
                        () -> r.reject(a, above, below), () -> m.reject(a, above, below));
            }
            case 9, 10, 11 -> {
                int machines = number(3);
                int steps = random.nextBoolean() ? 0 : number(40);
                same("run " + machines + " " + steps, () -> r.run(machines, steps), () -> m.run(machines, steps));
                wholeState();
            }
            case 12, 13 -> {
                int steps = number(40);
                same("improve " + steps, () -> r.improve(steps), () -> m.improve(steps));
                wholeState();
            }
            case 14 -> same("slot " + h + " " + a, () -> r.slot(h, a), () -> m.slot(h, a));
            case 15 -> same("order " + h + " " + b, () -> r.order(h, b), () -> m.order(h, b));
            case 16 -> same("trip " + h + " " + b, () -> r.trip(h, b), () -> m.trip(h, b));
            case 17 -> same("lower " + b + " " + c, () -> r.lower(b, c), () -> m.lower(b, c));
            case 18 -> same("machineOf " + b, () -> r.machineOf(b), () -> m.machineOf(b));
            case 19 -> same("common " + g + " " + h, () -> r.common(g, h), () -> m.common(g, h));
            case 20 -> same("changes " + h, () -> r.changes(h), () -> m.changes(h));
            default -> same("bound", () -> r.bound(), () -> m.bound());
        }
    }

    /** Bound and proved, three times changes and ten slots, at most 40 parts with their trips and three ends: 118. */
    private void wholeState() {
        same("bound", () -> r.bound(), () -> m.bound());
        same("proved", () -> r.proved(), () -> m.proved());
        for (int i = 0; i < 3; i++) {
            int h = i;
            same("changes " + h, () -> r.changes(h), () -> m.changes(h));
            for (int j = 0; j < 10; j++) {
                int k = j;
                same("slot " + h + " " + k, () -> r.slot(h, k), () -> m.slot(h, k));
            }
            wholeOrder(h);
        }
    }

    private void wholeOrder(int h) {
        for (int i = 0; i < 41; i++) {
            int k = i;
            String told = same("order " + h + " " + k, () -> r.order(h, k), () -> m.order(h, k));
            if (!told.matches("[0-9]+")) {
                return;
            }
            int part = Integer.parseInt(told);
            same("trip " + h + " " + part, () -> r.trip(h, part), () -> m.trip(h, part));
        }
    }

    /** What the model tells is given back: it is what is due. */
    private String same(String call, Call real, Call model) {
        calls++;
        String wanted = told(model);
        due.is("run " + run + ": " + call, told(real), wanted);
        return wanted;
    }

    private static String told(Call call) {
        try {
            return String.valueOf(call.answer());
        } catch (RuntimeException e) {
            return e.getClass().getName();
        }
    }
}
