import java.util.ArrayList;
import java.util.Arrays;
import java.util.List;

/** The document in its plainest form: every share and every order is tried, one after the other. */
final class PlainModel {
    static final int NONE = -1;

    private record Kind(int width, int nozzle) { }

    private record Part(int kind, long x, long y, long height) { }

    private record Maker(int nozzles, int trip) { }

    private final int slots;
    private long s;
    private final List<Kind> kinds = new ArrayList<>();
    private final List<Part> parts = new ArrayList<>();
    private final List<Maker> makers = new ArrayList<>();
    private final int[] fixedAt = new int[10];
    private final int[] refills = new int[10];
    private final long[] above = new long[10];
    private final long[] below = new long[10];
    private int used = 0;
    private final int[][] feeders = new int[3][10];
    private List<List<Integer>> rows = List.of(new ArrayList<>(), new ArrayList<>(), new ArrayList<>());

    PlainModel(long seed, int slots) {
        this.s = seed;
        this.slots = slots < 1 ? 1 : slots > 120 ? 120 : slots;
        Arrays.fill(fixedAt, NONE);
        Arrays.fill(below, 1);
        for (int[] row : feeders) {
            Arrays.fill(row, NONE);
        }
    }

    private static void index(int number, int count) {
        if (number < 0 || number >= count) {
            throw new IndexOutOfBoundsException();
        }
    }

    private static void range(long number, long least, long most) {
        if (number < least || number > most) {
            throw new IllegalArgumentException();
        }
    }

    int kind(int width, int nozzle) {
        range(width, 1, 4);
        range(nozzle, 0, 7);
        if (kinds.size() == 10) {
            return NONE;
        }
        kinds.add(new Kind(width, nozzle));
        return kinds.size() - 1;
    }

    int part(int kind, long x, long y, long height) {
        index(kind, kinds.size());
        range(x, 0, 100000);
        range(y, 0, 100000);
        range(height, 0, 10000);
        if (parts.size() == 40) {
            return NONE;
        }
        parts.add(new Part(kind, x, y, height));
        return parts.size() - 1;
    }

    int machine(int nozzles, int trip) {
        range(nozzles, 0, 255);
        range(trip, 1, 6);
        if (makers.size() == 3) {
            return NONE;
        }
        makers.add(new Maker(nozzles, trip));
        return makers.size() - 1;
    }

    boolean fixed(int kind, int slot) {
        index(kind, kinds.size());
        index(slot, slots);
        if (fixedAt[kind] != NONE || slot + kinds.get(kind).width > slots) {
            return false;
        }
        for (int at = slot; at < slot + kinds.get(kind).width; at++) {
            for (int k = 0; k < kinds.size(); k++) {
                if (fixedAt[k] != NONE && fixedAt[k] <= at && at < fixedAt[k] + kinds.get(k).width) {
                    return false;
                }
            }
        }
        fixedAt[kind] = slot;
        return true;
    }

    int run(int machines, long steps) {
        range(machines, 0, 3);
        range(steps, 0, 200);
        used = Math.min(machines, makers.size());
        int[] homes = homes();
        rows = new ArrayList<>();
        for (int m = 0; m < 3; m++) {
            standFeeders(m, homes);
            rows.add(firstRow(m));
        }
        exchange((int) steps);
        long greatest = 0;
        for (int m = 0; m < used; m++) {
            greatest = Math.max(greatest, time(m, rows.get(m)));
        }
        return (int) greatest;
    }

    private int partsOf(int kind) {
        return (int) parts.stream().filter(p -> p.kind == kind).count();
    }

    private boolean has(int machine, int nozzle) {
        return (makers.get(machine).nozzles & 1 << nozzle) != 0;
    }

    /** Counts through all ways like a number whose first digit is the first kind's machine. */
    private int[] homes() {
        int[] homes = new int[10];
        Arrays.fill(homes, NONE);
        List<Integer> shared = new ArrayList<>();
        for (int k = 0; k < kinds.size(); k++) {
            for (int m = 0; m < used; m++) {
                if (partsOf(k) > 0 && has(m, kinds.get(k).nozzle) && !shared.contains(k)) {
                    shared.add(k);
                }
            }
        }
        int ways = (int) Math.round(Math.pow(used, shared.size()));
        int least = Integer.MAX_VALUE;
        int[] amounts = shared.stream().mapToInt(this::partsOf).toArray();
        for (int way = 0; way < ways; way++) {
            int[] digits = new int[shared.size()];
            int rest = way;
            for (int i = shared.size() - 1; i >= 0; i--) {
                digits[i] = rest % used;
                rest /= used;
            }
            int[] loads = new int[3];
            boolean possible = true;
            for (int i = 0; i < digits.length; i++) {
                loads[digits[i]] += amounts[i];
                possible &= has(digits[i], kinds.get(shared.get(i)).nozzle);
            }
            int greatest = Math.max(loads[0], Math.max(loads[1], loads[2]));
            if (possible && greatest < least) {
                least = greatest;
                for (int i = 0; i < digits.length; i++) {
                    homes[shared.get(i)] = digits[i];
                }
            }
        }
        return homes;
    }

    private void standFeeders(int machine, int[] homes) {
        boolean[] taken = new boolean[slots];
        Arrays.fill(feeders[machine], NONE);
        for (int k = 0; k < kinds.size(); k++) {
            if (homes[k] == machine && fixedAt[k] != NONE) {
                feeders[machine][k] = fixedAt[k];
                Arrays.fill(taken, fixedAt[k], fixedAt[k] + kinds.get(k).width, true);
            }
        }
        for (int k = 0; k < kinds.size(); k++) {
            if (homes[k] != machine || fixedAt[k] != NONE) {
                continue;
            }
            for (int at = 0; at + kinds.get(k).width <= slots; at++) {
                boolean room = true;
                for (int i = at; i < at + kinds.get(k).width; i++) {
                    room &= !taken[i];
                }
                if (room) {
                    feeders[machine][k] = at;
                    Arrays.fill(taken, at, at + kinds.get(k).width, true);
                    break;
                }
            }
        }
    }

    private List<Integer> firstRow(int machine) {
        List<Integer> row = new ArrayList<>();
        for (int p = 0; p < parts.size(); p++) {
            if (feeders[machine][parts.get(p).kind] != NONE) {
                row.add(p);
            }
        }
        row.sort((a, b) -> {
            Part one = parts.get(a);
            Part other = parts.get(b);
            int way = Long.compare(one.height, other.height);
            way = way != 0 ? way : Long.compare(one.x, other.x);
            way = way != 0 ? way : Long.compare(one.y, other.y);
            return way != 0 ? way : Integer.compare(a, b);
        });
        if (!row.isEmpty()) {
            int carried = makers.get(machine).trip;
            for (int from = 0; from < row.size(); from += carried) {
                orderTrip(row, from, Math.min(row.size(), from + carried));
            }
        }
        return row;
    }

    private List<Integer> best;
    private long bestWay;

    private void orderTrip(List<Integer> row, int from, int to) {
        List<Integer> left = new ArrayList<>(row.subList(from, to));
        left.sort(null);
        best = null;
        tryAll(new ArrayList<>(), left);
        for (int i = from; i < to; i++) {
            row.set(i, best.get(i - from));
        }
    }

    private void tryAll(List<Integer> chosen, List<Integer> left) {
        if (left.isEmpty()) {
            if (rises(chosen) && (best == null || way(chosen) < bestWay)) {
                best = new ArrayList<>(chosen);
                bestWay = way(chosen);
            }
            return;
        }
        for (int i = 0; i < left.size(); i++) {
            List<Integer> rest = new ArrayList<>(left);
            chosen.add(rest.remove(i));
            tryAll(chosen, rest);
            chosen.remove(chosen.size() - 1);
        }
    }

    private boolean rises(List<Integer> trip) {
        for (int i = 1; i < trip.size(); i++) {
            if (parts.get(trip.get(i - 1)).height > parts.get(trip.get(i)).height) {
                return false;
            }
        }
        return true;
    }

    private long way(List<Integer> trip) {
        long x = 0;
        long y = 0;
        long way = 0;
        for (int p : trip) {
            Part part = parts.get(p);
            way += Math.max(Math.abs(part.x - x), Math.abs(part.y - y));
            x = part.x;
            y = part.y;
        }
        return way + Math.max(x, y);
    }

    private long time(int machine, List<Integer> row) {
        long time = 20L * changesIn(row) + supply(row);
        int carried = row.isEmpty() ? 1 : makers.get(machine).trip;
        for (int from = 0; from < row.size(); from += carried) {
            time += way(row.subList(from, Math.min(row.size(), from + carried)));
        }
        return time;
    }

    private int changesIn(List<Integer> row) {
        int count = 0;
        for (int i = 1; i < row.size(); i++) {
            count += nozzle(row.get(i - 1)) != nozzle(row.get(i)) ? 1 : 0;
        }
        return count;
    }

    private int nozzle(int part) {
        return kinds.get(parts.get(part).kind).nozzle;
    }

    private long supply(List<Integer> row) {
        long time = 0;
        for (int k = 0; k < kinds.size(); k++) {
            int kind = k;
            long n = row.stream().filter(p -> parts.get(p).kind == kind).count();
            if (n > 0) {
                long r = 0;
                while ((n + r) * (below[k] - above[k]) < n * below[k]) {
                    r++;
                }
                time += 2 * n + 2 * r + (refills[k] == 0 ? 0 : 50 * ((n + r - 1) / refills[k]));
            }
        }
        return time;
    }

    private int draw(int choices) {
        s = s * 6364136223846793005L + 1442695040888963407L;
        return (int) ((s >>> 33) % choices);
    }

    private int exchange(int steps) {
        int kept = 0;
        for (int i = 0; i < steps && used > 0; i++) {
            int machine = draw(used);
            List<Integer> row = rows.get(machine);
            if (row.size() < 2) {
                continue;
            }
            int a = draw(row.size());
            int b = draw(row.size());
            if (parts.get(row.get(a)).height != parts.get(row.get(b)).height) {
                continue;
            }
            List<Integer> other = new ArrayList<>(row);
            other.set(a, row.get(b));
            other.set(b, row.get(a));
            int carried = makers.get(machine).trip;
            for (int place : new int[] {a, b}) {
                int from = place / carried * carried;
                orderTrip(other, from, Math.min(other.size(), from + carried));
            }
            if (time(machine, other) < time(machine, row)) {
                kept++;
                rows.set(machine, other);
            }
        }
        return kept;
    }

    int slot(int machine, int kind) {
        index(machine, makers.size());
        index(kind, kinds.size());
        return feeders[machine][kind];
    }

    int order(int machine, int k) {
        index(machine, makers.size());
        return k < 0 || k >= rows.get(machine).size() ? NONE : rows.get(machine).get(k);
    }

    int trip(int machine, int part) {
        index(machine, makers.size());
        index(part, parts.size());
        int place = rows.get(machine).indexOf(part);
        return place < 0 ? NONE : place / makers.get(machine).trip;
    }

    boolean proved() {
        for (int m = 0; m < used; m++) {
            if (rows.get(m).size() > makers.get(m).trip) {
                return false;
            }
        }
        return true;
    }

    long bound() {
        long greatest = 0;
        for (int m = 0; m < used; m++) {
            long nozzles = rows.get(m).stream().map(this::nozzle).distinct().count();
            greatest = Math.max(greatest, supply(rows.get(m)) + 20 * Math.max(0, nozzles - 1));
        }
        return greatest;
    }

    boolean lower(int a, int b) {
        index(a, parts.size());
        index(b, parts.size());
        int one = machineOf(a);
        int other = machineOf(b);
        if (one == NONE || other == NONE) {
            return false;
        }
        return one < other || one == other && rows.get(one).indexOf(a) < rows.get(one).indexOf(b);
    }

    boolean refill(int kind, int n) {
        index(kind, kinds.size());
        range(n, 0, Integer.MAX_VALUE);
        boolean other = refills[kind] != n;
        refills[kind] = n;
        return other;
    }

    boolean reject(int kind, long over, long under) {
        index(kind, kinds.size());
        range(under, 1, 1000);
        range(over, 0, under - 1);
        boolean other = above[kind] != over || below[kind] != under;
        above[kind] = over;
        below[kind] = under;
        return other;
    }

    int machineOf(int part) {
        index(part, parts.size());
        for (int m = 0; m < 3; m++) {
            if (rows.get(m).contains(part)) {
                return m;
            }
        }
        return NONE;
    }

    int improve(int steps) {
        range(steps, 0, 200);
        return exchange(steps);
    }

    boolean common(int a, int b) {
        index(a, makers.size());
        index(b, makers.size());
        for (int k = 0; k < kinds.size(); k++) {
            boolean stands = feeders[a][k] != NONE || feeders[b][k] != NONE;
            if (stands && !(has(a, kinds.get(k).nozzle) && has(b, kinds.get(k).nozzle))) {
                return false;
            }
        }
        return true;
    }

    int changes(int machine) {
        index(machine, makers.size());
        return changesIn(rows.get(machine));
    }
}
