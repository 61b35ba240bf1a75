import java.util.Arrays;

/** Machines that place parts: shares of kinds, feeders in slots, trips of least way, exchanges, times. */
public final class FeederOrders {

    public static final int NONE = -1;

    private static final int MOST_SLOTS = 120;
    private static final int MOST_KINDS = 10;
    private static final int MOST_PARTS = 40;
    private static final int MOST_MACHINES = 3;
    private static final int MOST_WIDTH = 4;
    private static final int MOST_NOZZLE = 7;
    private static final int ALL_NOZZLES = 255;
    private static final int MOST_CARRIED = 6;
    private static final int MOST_PLACE = 100000;
    private static final int MOST_HEIGHT = 10000;
    private static final int MOST_STEPS = 200;
    private static final int MOST_BELOW = 1000;

    private static final int PICK_TIME = 2;
    private static final int CHANGE_TIME = 20;
    private static final int REFILL_TIME = 50;

    private final int slots;
    private final Draws draws;
    private final Kinds kinds = new Kinds();
    private final Parts parts = new Parts();
    private final Machine[] fleet = {new Machine(), new Machine(), new Machine()};
    private final Shares shares = new Shares();
    private final TripPlan tripPlan = new TripPlan();
    private final int[] spareRow = new int[MOST_PARTS];
    private int machineCount = 0;
    private int usedCount = 0;

    public FeederOrders(long seed, int slots) {
        this.slots = Math.max(1, Math.min(MOST_SLOTS, slots));
        this.draws = new Draws(seed);
    }

    public int kind(int width, int nozzle) throws IllegalArgumentException {
        if (width < 1 || width > MOST_WIDTH) {
            throw new IllegalArgumentException("a kind is 1 .. 4 slots wide");
        }
        if (nozzle < 0 || nozzle > MOST_NOZZLE) {
            throw new IllegalArgumentException("a nozzle is 0 .. 7");
        }
        return kinds.add(width, nozzle);
    }

    public int part(int kind, long x, long y, long height)
            throws IndexOutOfBoundsException, IllegalArgumentException {
        requireKind(kind);
        if (x < 0 || x > MOST_PLACE || y < 0 || y > MOST_PLACE) {
            throw new IllegalArgumentException("a place is 0 .. 100,000");
        }
        if (height < 0 || height > MOST_HEIGHT) {
            throw new IllegalArgumentException("a height is 0 .. 10,000");
        }
        return parts.add(kind, (int) x, (int) y, (int) height);
    }

    public int machine(int nozzles, int trip) throws IllegalArgumentException {
        if (nozzles < 0 || nozzles > ALL_NOZZLES) {
            throw new IllegalArgumentException("nozzles are 0 .. 255");
        }
        if (trip < 1 || trip > MOST_CARRIED) {
            throw new IllegalArgumentException("a trip is of 1 .. 6 parts");
        }
        if (machineCount >= MOST_MACHINES) {
            return NONE;
        }
        fleet[machineCount].nozzles = nozzles;
        fleet[machineCount].carried = trip;
        machineCount++;
        return machineCount - 1;
    }

    public boolean fixed(int kind, int slot) throws IndexOutOfBoundsException {
        requireKind(kind);
        if (slot < 0 || slot >= slots) {
            throw new IndexOutOfBoundsException("no such slot");
        }
        int width = kinds.widths[kind];
        if (kinds.fixedAt[kind] != NONE || slot + width > slots || !kinds.isFree(kinds.fixedAt, slot, width)) {
            return false;
        }
        kinds.fixedAt[kind] = slot;
        return true;
    }

    public int run(int machines, long steps) throws IllegalArgumentException {
        if (machines < 0 || machines > MOST_MACHINES) {
            throw new IllegalArgumentException("machines are 0 .. 3");
        }
        if (steps < 0 || steps > MOST_STEPS) {
            throw new IllegalArgumentException("steps are 0 .. 200");
        }
        usedCount = Math.min(machines, machineCount);
        shareKinds();
        for (int m = 0; m < MOST_MACHINES; m++) {
            setUp(m);
        }
        exchangeParts((int) steps);
        return greatestTime();
    }

    public int slot(int machine, int kind) throws IndexOutOfBoundsException {
        requireMachine(machine);
        requireKind(kind);
        return fleet[machine].feederAt[kind];
    }

    public int order(int machine, int k) throws IndexOutOfBoundsException {
        requireMachine(machine);
        return fleet[machine].partAt(k);
    }

    public int trip(int machine, int part) throws IndexOutOfBoundsException {
        requireMachine(machine);
        requirePart(part);
        int place = fleet[machine].placeOf(part);
        return place == NONE ? NONE : fleet[machine].tripAt(place);
    }

    public boolean proved() {
        for (int m = 0; m < usedCount; m++) {
            if (fleet[m].tripCount() > 1) {
                return false;
            }
        }
        return true;
    }

    public long bound() {
        long greatest = 0;
        for (int m = 0; m < usedCount; m++) {
            greatest = Math.max(greatest, supplyTime(fleet[m]) + leastChangeTime(fleet[m]));
        }
        return greatest;
    }

    public boolean lower(int a, int b) throws IndexOutOfBoundsException {
        requirePart(a);
        requirePart(b);
        int hostOfA = hostOf(a);
        int hostOfB = hostOf(b);
        if (hostOfA == NONE || hostOfB == NONE) {
            return false;
        }
        if (hostOfA != hostOfB) {
            return hostOfA < hostOfB;
        }
        return fleet[hostOfA].placeOf(a) < fleet[hostOfA].placeOf(b);
    }

    public boolean refill(int kind, int n) throws IndexOutOfBoundsException, IllegalArgumentException {
        requireKind(kind);
        if (n < 0) {
            throw new IllegalArgumentException("a refill is of 0 or more parts");
        }
        boolean other = kinds.refillBy[kind] != n;
        kinds.refillBy[kind] = n;
        return other;
    }

    public boolean reject(int kind, long above, long below)
            throws IndexOutOfBoundsException, IllegalArgumentException {
        requireKind(kind);
        if (below < 1 || below > MOST_BELOW) {
            throw new IllegalArgumentException("below is 1 .. 1,000");
        }
        if (above < 0 || above >= below) {
            throw new IllegalArgumentException("above is 0 .. below - 1");
        }
        boolean other = kinds.rejectAbove[kind] != above || kinds.rejectBelow[kind] != below;
        kinds.rejectAbove[kind] = (int) above;
        kinds.rejectBelow[kind] = (int) below;
        return other;
    }

    public int machineOf(int part) throws IndexOutOfBoundsException {
        requirePart(part);
        return hostOf(part);
    }

    public int improve(int steps) throws IllegalArgumentException {
        if (steps < 0 || steps > MOST_STEPS) {
            throw new IllegalArgumentException("steps are 0 .. 200");
        }
        return exchangeParts(steps);
    }

    public boolean common(int boardA, int boardB) throws IndexOutOfBoundsException {
        requireMachine(boardA);
        requireMachine(boardB);
        Machine a = fleet[boardA];
        Machine b = fleet[boardB];
        for (int k = 0; k < kinds.count; k++) {
            boolean stands = a.feederAt[k] != NONE || b.feederAt[k] != NONE;
            if (stands && !(a.hasNozzle(kinds.nozzles[k]) && b.hasNozzle(kinds.nozzles[k]))) {
                return false;
            }
        }
        return true;
    }

    public int changes(int machine) throws IndexOutOfBoundsException {
        requireMachine(machine);
        return countChanges(fleet[machine]);
    }

    private void requireKind(int kind) {
        if (kind < 0 || kind >= kinds.count) {
            throw new IndexOutOfBoundsException("no such kind");
        }
    }

    private void requirePart(int part) {
        if (!parts.has(part)) {
            throw new IndexOutOfBoundsException("no such part");
        }
    }

    private void requireMachine(int machine) {
        if (machine < 0 || machine >= machineCount) {
            throw new IndexOutOfBoundsException("no such machine");
        }
    }

    private int hostOf(int part) {
        for (int m = 0; m < usedCount; m++) {
            if (fleet[m].placeOf(part) != NONE) {
                return m;
            }
        }
        return NONE;
    }

    private void shareKinds() {
        shares.clear();
        for (int k = 0; k < kinds.count; k++) {
            int amount = parts.countOf(k);
            int hosts = hostsFor(kinds.nozzles[k]);
            if (amount > 0 && hosts != 0) {
                shares.add(k, amount, hosts);
            }
        }
        shares.settle();
    }

    private int hostsFor(int nozzle) {
        int hosts = 0;
        for (int m = 0; m < usedCount; m++) {
            if (fleet[m].hasNozzle(nozzle)) {
                hosts |= 1 << m;
            }
        }
        return hosts;
    }

    private void setUp(int number) {
        Machine machine = fleet[number];
        machine.clear();
        placeFixedFeeders(machine, number);
        placeOtherFeeders(machine, number);
        for (int p = 0; p < parts.count; p++) {
            if (machine.feederAt[parts.kindOf[p]] != NONE) {
                machine.insert(p, parts);
            }
        }
        for (int trip = 0; trip < machine.tripCount(); trip++) {
            tripPlan.arrange(parts, machine, trip);
        }
        machine.moveTime = moveTime(machine);
    }

    private void placeFixedFeeders(Machine machine, int number) {
        for (int k = 0; k < kinds.count; k++) {
            if (shares.homeOf[k] == number) {
                machine.feederAt[k] = kinds.fixedAt[k];
            }
        }
    }

    private void placeOtherFeeders(Machine machine, int number) {
        for (int k = 0; k < kinds.count; k++) {
            if (shares.homeOf[k] == number && kinds.fixedAt[k] == NONE) {
                machine.feederAt[k] = lowestRoom(machine, kinds.widths[k]);
            }
        }
    }

    private int lowestRoom(Machine machine, int width) {
        for (int at = 0; at + width <= slots; at++) {
            if (kinds.isFree(machine.feederAt, at, width)) {
                return at;
            }
        }
        return NONE;
    }

    private int exchangeParts(int steps) {
        int kept = 0;
        // Without a machine there is nothing to draw from, so s stays as it is.
        for (int i = 0; i < steps && usedCount > 0; i++) {
            if (exchangeOnce(fleet[draws.next(usedCount)])) {
                kept++;
            }
        }
        return kept;
    }

    private boolean exchangeOnce(Machine machine) {
        if (machine.size < 2) {
            return false;
        }
        int a = draws.next(machine.size);
        int b = draws.next(machine.size);
        // Within one trip the parts stay the same ones, and so does their order of least way.
        if (!parts.sameHeight(machine.row[a], machine.row[b]) || machine.tripAt(a) == machine.tripAt(b)) {
            return false;
        }
        System.arraycopy(machine.row, 0, spareRow, 0, machine.size);
        machine.row[a] = spareRow[b];
        machine.row[b] = spareRow[a];
        tripPlan.arrange(parts, machine, machine.tripAt(a));
        tripPlan.arrange(parts, machine, machine.tripAt(b));
        int time = moveTime(machine);
        if (time < machine.moveTime) {
            machine.moveTime = time;
            return true;
        }
        System.arraycopy(spareRow, 0, machine.row, 0, machine.size);
        return false;
    }

    private int greatestTime() {
        int greatest = 0;
        for (int m = 0; m < usedCount; m++) {
            greatest = Math.max(greatest, fleet[m].moveTime + supplyTime(fleet[m]));
        }
        return greatest;
    }

    /** That of the time which exchanges can alter: the ways and the changes. */
    private int moveTime(Machine machine) {
        int way = 0;
        int last = NONE;
        for (int i = 0; i < machine.size; i++) {
            if (i > 0 && machine.tripAt(i) != machine.tripAt(i - 1)) {
                way += parts.wayBetween(last, NONE);
                last = NONE;
            }
            way += parts.wayBetween(last, machine.row[i]);
            last = machine.row[i];
        }
        return way + parts.wayBetween(last, NONE) + CHANGE_TIME * countChanges(machine);
    }

    private int countChanges(Machine machine) {
        int count = 0;
        for (int i = 1; i < machine.size; i++) {
            if (nozzleFor(machine.row[i - 1]) != nozzleFor(machine.row[i])) {
                count++;
            }
        }
        return count;
    }

    private int nozzleFor(int part) {
        return kinds.nozzles[parts.kindOf[part]];
    }

    /** That of the time which the numbers of parts alone tell: parts, rejects, refills. */
    private int supplyTime(Machine machine) {
        int time = 0;
        for (int k = 0; k < kinds.count; k++) {
            if (machine.amountOf[k] > 0) {
                int picked = kinds.pickedFor(k, machine.amountOf[k]);
                time += PICK_TIME * picked + REFILL_TIME * kinds.refillsFor(k, picked);
            }
        }
        return time;
    }

    private int leastChangeTime(Machine machine) {
        int needed = 0;
        for (int k = 0; k < kinds.count; k++) {
            if (machine.amountOf[k] > 0) {
                needed |= 1 << kinds.nozzles[k];
            }
        }
        return CHANGE_TIME * Math.max(0, Integer.bitCount(needed) - 1);
    }

    private static final class Draws {
        private static final long FACTOR = 6364136223846793005L;
        private static final long ADDEND = 1442695040888963407L;

        private long state;

        Draws(long seed) {
            state = seed;
        }

        int next(int choices) {
            state = state * FACTOR + ADDEND;
            return choices > 0 ? (int) ((state >>> 33) % choices) : 0;
        }
    }

    private static final class Kinds {
        final int[] widths = new int[MOST_KINDS];
        final int[] nozzles = new int[MOST_KINDS];
        final int[] fixedAt = new int[MOST_KINDS];
        final int[] refillBy = new int[MOST_KINDS];
        final int[] rejectAbove = new int[MOST_KINDS];
        final int[] rejectBelow = new int[MOST_KINDS];
        int count = 0;

        int add(int width, int nozzle) {
            if (count >= MOST_KINDS) {
                return NONE;
            }
            widths[count] = width;
            nozzles[count] = nozzle;
            fixedAt[count] = NONE;
            rejectBelow[count] = 1;
            count++;
            return count - 1;
        }

        /** Whether none of the kinds that begin at these slots meets one that would begin here. */
        boolean isFree(int[] begins, int at, int width) {
            for (int k = 0; k < count; k++) {
                if (begins[k] != NONE && at < begins[k] + widths[k] && begins[k] < at + width) {
                    return false;
                }
            }
            return true;
        }

        /** How many parts are taken from the feeder, rejects among them, until so many are good. */
        int pickedFor(int kind, int amount) {
            int good = rejectBelow[kind] - rejectAbove[kind];
            return good > 0 ? (amount * rejectBelow[kind] + good - 1) / good : amount;
        }

        int refillsFor(int kind, int picked) {
            return refillBy[kind] > 0 ? (picked - 1) / refillBy[kind] : 0;
        }
    }

    private static final class Parts {
        final int[] kindOf = new int[MOST_PARTS];
        final int[] xs = new int[MOST_PARTS];
        final int[] ys = new int[MOST_PARTS];
        final int[] heights = new int[MOST_PARTS];
        int count = 0;

        int add(int kind, int x, int y, int height) {
            if (count >= MOST_PARTS) {
                return NONE;
            }
            kindOf[count] = kind;
            xs[count] = x;
            ys[count] = y;
            heights[count] = height;
            count++;
            return count - 1;
        }

        boolean has(int part) {
            return part >= 0 && part < count;
        }

        int countOf(int kind) {
            int amount = 0;
            for (int p = 0; p < count; p++) {
                if (kindOf[p] == kind) {
                    amount++;
                }
            }
            return amount;
        }

        boolean sameHeight(int a, int b) {
            return heights[a] == heights[b];
        }

        boolean standsAhead(int a, int b) {
            if (heights[a] != heights[b]) {
                return heights[a] < heights[b];
            }
            if (xs[a] != xs[b]) {
                return xs[a] < xs[b];
            }
            return ys[a] != ys[b] ? ys[a] < ys[b] : a < b;
        }

        /** The way between two parts; NONE stands for the place 0, 0. */
        int wayBetween(int a, int b) {
            int alongX = (has(a) ? xs[a] : 0) - (has(b) ? xs[b] : 0);
            int alongY = (has(a) ? ys[a] : 0) - (has(b) ? ys[b] : 0);
            return Math.max(Math.abs(alongX), Math.abs(alongY));
        }
    }

    private static final class Machine {
        final int[] row = new int[MOST_PARTS];
        final int[] feederAt = new int[MOST_KINDS];
        final int[] amountOf = new int[MOST_KINDS];
        int nozzles = 0;
        int carried = 1;
        int size = 0;
        int moveTime = 0;

        Machine() {
            Arrays.fill(feederAt, NONE);
        }

        void clear() {
            Arrays.fill(feederAt, NONE);
            Arrays.fill(amountOf, 0);
            size = 0;
        }

        boolean hasNozzle(int nozzle) {
            return (nozzles >> nozzle & 1) == 1;
        }

        void insert(int part, Parts parts) {
            if (size >= MOST_PARTS) {
                return;
            }
            int at = size;
            while (at > 0 && parts.standsAhead(part, row[at - 1])) {
                row[at] = row[at - 1];
                at--;
            }
            row[at] = part;
            size++;
            amountOf[parts.kindOf[part]]++;
        }

        int partAt(int place) {
            return place >= 0 && place < size ? row[place] : NONE;
        }

        int placeOf(int part) {
            for (int i = 0; i < size; i++) {
                if (row[i] == part) {
                    return i;
                }
            }
            return NONE;
        }

        int tripAt(int place) {
            return carried > 0 ? place / carried : 0;
        }

        int tripCount() {
            return size > 0 ? tripAt(size - 1) + 1 : 0;
        }
    }

    /** Shares kinds over three machines so that the greatest load is least. */
    private static final class Shares {
        final int[] homeOf = new int[MOST_KINDS];
        private final int[] kindOf = new int[MOST_KINDS];
        private final int[] amountOf = new int[MOST_KINDS];
        private final int[] hostsOf = new int[MOST_KINDS];
        /**
         * Bit b of endings[i][a]: the kinds from the i-th on can still be shared when machine 0 has a parts of
         * those before them and machine 1 has b (machine 2 then has the rest, so its load needs no place here).
         */
        private final long[][] endings = new long[MOST_KINDS + 1][MOST_PARTS + 1];
        private int count = 0;
        private int total = 0;

        void clear() {
            Arrays.fill(homeOf, NONE);
            count = 0;
            total = 0;
        }

        void add(int kind, int amount, int hosts) {
            if (count >= MOST_KINDS || total + amount > MOST_PARTS) {
                return;
            }
            kindOf[count] = kind;
            amountOf[count] = amount;
            hostsOf[count] = hosts;
            count++;
            total += amount;
        }

        void settle() {
            int evenLoad = (total + MOST_MACHINES - 1) / MOST_MACHINES;
            for (int limit = evenLoad; limit <= total; limit++) {
                if (canKeepTo(limit)) {
                    chooseHomes();
                    return;
                }
            }
        }

        private boolean canKeepTo(int limit) {
            for (int a = 0; a <= total; a++) {
                endings[count][a] = lastLoads(a, limit);
            }
            for (int i = count - 1; i >= 0; i--) {
                for (int a = 0; a <= total; a++) {
                    endings[i][a] = loadsBefore(i, a);
                }
            }
            return (endings[0][0] & 1L) == 1L;
        }

        private long lastLoads(int a, int limit) {
            long loads = 0;
            if (a <= limit) {
                int most = Math.min(limit, total - a);
                for (int b = Math.max(0, total - a - limit); b <= most; b++) {
                    loads |= 1L << b;
                }
            }
            return loads;
        }

        private long loadsBefore(int i, int a) {
            long loads = 0;
            if (isHost(i, 0) && a + amountOf[i] <= total) {
                loads |= endings[i + 1][a + amountOf[i]];
            }
            if (isHost(i, 1)) {
                loads |= endings[i + 1][a] >>> amountOf[i];
            }
            if (isHost(i, 2)) {
                loads |= endings[i + 1][a];
            }
            return loads;
        }

        private boolean isHost(int i, int machine) {
            return (hostsOf[i] >> machine & 1) == 1;
        }

        private void chooseHomes() {
            int a = 0;
            int b = 0;
            for (int i = 0; i < count; i++) {
                int amount = amountOf[i];
                if (isHost(i, 0) && canEnd(i + 1, a + amount, b)) {
                    homeOf[kindOf[i]] = 0;
                    a += amount;
                } else if (isHost(i, 1) && canEnd(i + 1, a, b + amount)) {
                    homeOf[kindOf[i]] = 1;
                    b += amount;
                } else {
                    homeOf[kindOf[i]] = 2;
                }
            }
        }

        private boolean canEnd(int i, int a, int b) {
            return a <= total && b <= total && (endings[i][a] >>> b & 1L) == 1L;
        }
    }

    /** Puts the parts of one trip in their order of least way. */
    private static final class TripPlan {
        private static final int HOME = MOST_CARRIED;

        private final int[] pool = new int[MOST_CARRIED];
        /** The bits of the parts of the pool that are lower, and so must be placed before. */
        private final int[] lowerOnes = new int[MOST_CARRIED];
        private final int[][] ways = new int[MOST_CARRIED + 1][MOST_CARRIED + 1];
        /** The least way still to go when the parts of these bits are placed, this one last. */
        private final int[][] wayLeft = new int[1 << MOST_CARRIED][MOST_CARRIED];
        private int size = 0;

        void arrange(Parts parts, Machine machine, int trip) {
            int from = trip * machine.carried;
            int to = Math.min(machine.size, from + machine.carried);
            if (from < 0 || to - from > MOST_CARRIED) {
                return;
            }
            size = 0;
            for (int i = from; i < to; i++) {
                takeIn(machine.row[i]);
            }
            measure(parts);
            weigh();
            layOut(machine.row, from);
        }

        /** The pool stands by number, so that of equal ways the first one found is the one that is due. */
        private void takeIn(int part) {
            int at = size;
            while (at > 0 && part < pool[at - 1]) {
                pool[at] = pool[at - 1];
                at--;
            }
            pool[at] = part;
            size++;
        }

        private void measure(Parts parts) {
            for (int i = 0; i < size; i++) {
                lowerOnes[i] = 0;
                ways[i][HOME] = parts.wayBetween(pool[i], NONE);
                ways[HOME][i] = ways[i][HOME];
                for (int j = 0; j < size; j++) {
                    ways[i][j] = parts.wayBetween(pool[i], pool[j]);
                    if (parts.heights[pool[j]] < parts.heights[pool[i]]) {
                        lowerOnes[i] |= 1 << j;
                    }
                }
            }
        }

        /** From all parts placed back to one: what a set leaves to go is asked of sets with one part more. */
        private void weigh() {
            for (int placed = (1 << size) - 1; placed > 0; placed--) {
                int followers = followersOf(placed);
                for (int last = 0; last < size; last++) {
                    if ((placed >> last & 1) == 1) {
                        int next = bestNext(placed, followers, last);
                        wayLeft[placed][last] = next == NONE ? ways[last][HOME] : wayOver(placed, last, next);
                    }
                }
            }
        }

        private void layOut(int[] row, int from) {
            int placed = 0;
            int last = HOME;
            for (int i = 0; i < size; i++) {
                int next = bestNext(placed, followersOf(placed), last);
                if (next == NONE) {
                    return;
                }
                row[from + i] = pool[next];
                placed |= 1 << next;
                last = next;
            }
        }

        /** The bits of the parts that may be placed next: heights never fall. */
        private int followersOf(int placed) {
            int followers = 0;
            for (int next = 0; next < size; next++) {
                if ((placed >> next & 1) == 0 && (lowerOnes[next] & ~placed) == 0) {
                    followers |= 1 << next;
                }
            }
            return followers;
        }

        private int bestNext(int placed, int followers, int last) {
            int best = NONE;
            int least = 0;
            for (int next = 0; next < size; next++) {
                if ((followers >> next & 1) == 1) {
                    int way = wayOver(placed, last, next);
                    if (best == NONE || way < least) {
                        best = next;
                        least = way;
                    }
                }
            }
            return best;
        }

        private int wayOver(int placed, int last, int next) {
            return ways[last][next] + wayLeft[placed | 1 << next][next];
        }
    }
}
