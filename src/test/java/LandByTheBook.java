import java.util.ArrayList;
import java.util.List;

/** The document's words once more, as plainly and as slowly as they stand there: all is found anew for each call. */
final class LandByTheBook {
    private static final int NONE = -6, UNKNOWN = -1, OUTSIDE = -2, FULL = -4;

    private int seed = 0, n = 12, wx = 0, wy = 0, wanted = 0;
    private final int[] rules = {80, 8, 4, 20};
    private final List<int[]> changes = new ArrayList<>();

    private int[] height, level, down, flow, turn, kind;
    private final List<Integer> towns = new ArrayList<>();
    private int[][] costs;
    private final List<int[]> roads = new ArrayList<>();
    private int inNet;
    private boolean isFresh = false;

    static int corner(int seed, int l, int i, int j) {
        int m = (int) ((long) seed * 73856093L + l * 19349663L + i * 83492791L + j * 265443576L);
        for (int twice = 0; twice < 2; twice++) {
            m = (int) ((m ^ (m >>> 15)) * 739982445L);
        }
        return (m >>> 16) % 256;
    }

    static int layer(int seed, int l, int x, int y) {
        int p = new int[] {8, 4, 2}[l];
        int i = x / p, j = y / p, u = x % p, v = y % p;
        int a = corner(seed, l, i, j), b = corner(seed, l, i + 1, j);
        int c = corner(seed, l, i, j + 1), d = corner(seed, l, i + 1, j + 1);
        return ((a * (p - u) + b * u) * (p - v) + (c * (p - u) + d * u) * v) / (p * p);
    }

    static int ground(int seed, int x, int y) {
        return (4 * layer(seed, 0, x, y) + 2 * layer(seed, 1, x, y) + layer(seed, 2, x, y)) / 7;
    }

    // ---- 1 the world

    int seed(int s) {
        int before = seed;
        seed = s;
        isFresh = false;
        return before;
    }

    int ground(int x, int y) {
        return x < 0 || y < 0 || x > 200000 || y > 200000 ? OUTSIDE : ground(seed, x, y);
    }

    int size(int size) {
        if (size < 4 || size > 24) {
            return OUTSIDE;
        }
        int before = n;
        n = size;
        isFresh = false;
        return before;
    }

    int window(int x, int y) {
        if (x < 0 || y < 0 || x > 100000 || y > 100000) {
            return OUTSIDE;
        }
        wx = x;
        wy = y;
        isFresh = false;
        return 1;
    }

    int change(int place, int by) {
        if (isNoPlace(place)) {
            return UNKNOWN;
        }
        if (by < -400 || by > 400 || by == 0) {
            return OUTSIDE;
        }
        if (changes.size() == 30) {
            return FULL;
        }
        changes.add(new int[] {wx + place % n, wy + place / n, by});
        isFresh = false;
        return changes.size();
    }

    int changed(int i, int what) {
        if (i < 0 || i >= changes.size()) {
            return -1001;
        }
        return what < 0 || what > 2 ? -1002 : changes.get(i)[what];
    }

    int undo() {
        if (changes.isEmpty()) {
            return UNKNOWN;
        }
        changes.remove(changes.size() - 1);
        isFresh = false;
        return changes.size();
    }

    // ---- 2 water

    int rule(int what, int v) {
        if (what < 0 || what > 3) {
            return OUTSIDE;
        }
        int[][] bounds = {{0, 255}, {2, 200}, {1, 12}, {0, 100}};
        if (v < bounds[what][0] || v > bounds[what][1]) {
            return OUTSIDE;
        }
        int before = rules[what];
        rules[what] = v;
        isFresh = false;
        return before;
    }

    int about(int place, int what) {
        if (isNoPlace(place)) {
            return UNKNOWN;
        }
        if (what < 0 || what > 6) {
            return OUTSIDE;
        }
        make();
        int outlet = place;
        while (down[outlet] != NONE) {
            outlet = down[outlet];
        }
        int[] all = {height[place], level[place], down[place], flow[place], outlet, turn[place], worth(place)};
        return all[what];
    }

    int is(int place) {
        if (isNoPlace(place)) {
            return UNKNOWN;
        }
        make();
        return kind[place] + (towns.contains(place) ? 16 : 0) + (roads(place) > 0 ? 32 : 0);
    }

    int many(int what) {
        if (what != 1 && what != 2 && what != 4 && what != 8 && what != 16 && what != 32) {
            return OUTSIDE;
        }
        int found = 0;
        for (int p = 0; p < n * n; p++) {
            found += is(p) / what % 2;
        }
        return found;
    }

    int lakes() {
        make();
        int[] lakeOf = lakeNumbers();
        int found = 0;
        for (int p = 0; p < n * n; p++) {
            found += lakeOf[p] == p ? 1 : 0;
        }
        return found;
    }

    int lake(int place) {
        if (isNoPlace(place)) {
            return UNKNOWN;
        }
        make();
        int[] lakeOf = lakeNumbers();
        int found = 0;
        for (int p = 0; p < n * n; p++) {
            found += kind[place] == 2 && lakeOf[p] == lakeOf[place] ? 1 : 0;
        }
        return found;
    }

    // ---- 3 towns, roads

    int towns(int number) {
        if (number < 0 || number > 6) {
            return OUTSIDE;
        }
        wanted = number;
        isFresh = false;
        make();
        return towns.size();
    }

    int town(int t) {
        make();
        return isNoTown(t) ? UNKNOWN : towns.get(t);
    }

    int cost(int a, int b) {
        make();
        return isNoTown(a) || isNoTown(b) ? UNKNOWN : costs[b][towns.get(a)];
    }

    int way(int a, int b, int i) {
        make();
        if (isNoTown(a) || isNoTown(b)) {
            return UNKNOWN;
        }
        List<Integer> way = wayBetween(a, b);
        return i >= 0 && i < way.size() ? way.get(i) : NONE;
    }

    int net(int what) {
        if (what < 0 || what > 2 && what < 10) {
            return OUTSIDE;
        }
        make();
        int together = 0;
        for (int[] road : roads) {
            together += costs[road[1]][towns.get(road[0])];
        }
        if (what < 3) {
            return new int[] {inNet, together, roads.size()}[what];
        }
        int k = (what - 10) / 2;
        return k < roads.size() ? roads.get(k)[what % 2] : NONE;
    }

    int roads(int place) {
        if (isNoPlace(place)) {
            return UNKNOWN;
        }
        make();
        int found = 0;
        for (int[] road : roads) {
            found += wayBetween(road[0], road[1]).contains(place) ? 1 : 0;
        }
        return found;
    }

    int told(int what) {
        if (what < 0 || what > 10) {
            return OUTSIDE;
        }
        make();
        return new int[] {n, wx, wy, rules[0], rules[1], rules[2], rules[3], towns.size(), wanted, changes.size(),
            seed}[what];
    }

    // ---- how it is found

    private boolean isNoPlace(int place) {
        return place < 0 || place >= n * n;
    }

    private boolean isNoTown(int t) {
        return t < 0 || t >= towns.size();
    }

    private boolean areBeside(int p, int q) {
        return Math.abs(p % n - q % n) + Math.abs(p / n - q / n) == 1;
    }

    private List<Integer> beside(int p) {
        List<Integer> all = new ArrayList<>();
        for (int q : new int[] {p - n, p - 1, p + 1, p + n}) {
            if (!isNoPlace(q) && areBeside(p, q)) {
                all.add(q);
            }
        }
        return all;
    }

    private void make() {
        if (!isFresh) {
            isFresh = true;
            makeHeights();
            makeWater();
            makeFlow();
            makeTowns();
            makeCosts();
            makeNet();
        }
    }

    private void makeHeights() {
        height = new int[n * n];
        for (int p = 0; p < n * n; p++) {
            int x = wx + p % n, y = wy + p / n;
            int sum = ground(seed, x, y);
            for (int[] change : changes) {
                sum += change[0] == x && change[1] == y ? change[2] : 0;
            }
            height[p] = sum < 0 ? 0 : sum > 400 ? 400 : sum;
        }
    }

    private void makeWater() {
        level = new int[n * n];
        down = new int[n * n];
        turn = new int[n * n];
        java.util.Arrays.fill(turn, -1);
        int taken = 0;
        for (int p = 0; p < n * n; p++) {
            boolean isSea = height[p] < rules[0];
            down[p] = NONE;
            if (isSea || beside(p).size() < 4) {
                level[p] = isSea ? rules[0] : height[p];
                turn[p] = taken++;
            }
        }
        while (taken < n * n) {
            int best = NONE, bestWater = 0;
            for (int p = 0; p < n * n; p++) {
                int least = turn[p] < 0 ? leastTakenBeside(p) : NONE;
                if (least != NONE && (best == NONE || Math.max(least, height[p]) < bestWater)) {
                    best = p;
                    bestWater = Math.max(least, height[p]);
                }
            }
            int least = leastTakenBeside(best);
            for (int q : beside(best)) {
                if (turn[q] >= 0 && level[q] == least && (down[best] == NONE || turn[q] < turn[down[best]])) {
                    down[best] = q;
                }
            }
            level[best] = bestWater;
            turn[best] = taken++;
        }
    }

    private int leastTakenBeside(int p) {
        int least = NONE;
        for (int q : beside(p)) {
            if (turn[q] >= 0 && (least == NONE || level[q] < least)) {
                least = level[q];
            }
        }
        return least;
    }

    private int flowOf(int p) {
        int sum = 1;
        for (int q : beside(p)) {
            sum += down[q] == p ? flowOf(q) : 0;
        }
        return sum;
    }

    private void makeFlow() {
        flow = new int[n * n];
        kind = new int[n * n];
        for (int p = 0; p < n * n; p++) {
            flow[p] = flowOf(p);
            boolean isSea = height[p] < rules[0];
            kind[p] = isSea ? 1 : level[p] > height[p] ? 2 : flow[p] >= rules[1] ? 4 : 8;
        }
    }

    /** Each lake bears the least number of its places. */
    private int[] lakeNumbers() {
        int[] lakeOf = new int[n * n];
        for (int p = 0; p < n * n; p++) {
            lakeOf[p] = kind[p] == 2 ? p : NONE;
        }
        for (boolean goesOn = true; goesOn; ) {
            goesOn = false;
            for (int p = 0; p < n * n; p++) {
                for (int q : beside(p)) {
                    if (kind[p] == 2 && kind[q] == 2 && level[p] == level[q] && lakeOf[q] < lakeOf[p]) {
                        lakeOf[p] = lakeOf[q];
                        goesOn = true;
                    }
                }
            }
        }
        return lakeOf;
    }

    private int worth(int p) {
        if (kind[p] != 8) {
            return NONE;
        }
        int greatest = 0;
        for (int q : beside(p)) {
            greatest = kind[q] == 4 ? Math.max(greatest, flow[q]) : greatest;
        }
        return 500 - height[p] + (greatest > 60 ? 60 : greatest);
    }

    private void makeTowns() {
        towns.clear();
        for (int t = 0; t < wanted; t++) {
            int best = NONE;
            for (int p = n * n - 1; p >= 0; p--) {
                boolean fits = kind[p] == 8;
                for (int town : towns) {
                    fits &= Math.abs(p % n - town % n) + Math.abs(p / n - town / n) >= rules[2];
                }
                if (fits && (best == NONE || worth(p) >= worth(best))) {
                    best = p;
                }
            }
            if (best != NONE) {
                towns.add(best);
            }
        }
    }

    private int step(int p, int q) {
        return 10 + Math.abs(height[p] - height[q]) + (kind[p] == 4 || kind[q] == 4 ? rules[3] : 0);
    }

    private void makeCosts() {
        costs = new int[towns.size()][n * n];
        for (int t = 0; t < towns.size(); t++) {
            java.util.Arrays.fill(costs[t], NONE);
            costs[t][towns.get(t)] = 0;
            for (boolean goesOn = true; goesOn; ) {
                goesOn = false;
                for (int p = 0; p < n * n; p++) {
                    for (int q : beside(p)) {
                        if (costs[t][q] != NONE && kind[p] > 2 && kind[q] > 2
                                && (costs[t][p] == NONE || costs[t][q] + step(p, q) < costs[t][p])) {
                            costs[t][p] = costs[t][q] + step(p, q);
                            goesOn = true;
                        }
                    }
                }
            }
        }
    }

    private List<Integer> wayBetween(int a, int b) {
        List<Integer> way = new ArrayList<>();
        if (costs[b][towns.get(a)] == NONE) {
            return way;
        }
        int p = towns.get(a);
        way.add(p);
        while (p != towns.get(b)) {
            int next = NONE;
            for (int q : beside(p)) {
                if (costs[b][q] != NONE && kind[q] > 2
                        && (next == NONE || costs[b][q] + step(p, q) < costs[b][next] + step(p, next))) {
                    next = q;
                }
            }
            p = next;
            way.add(p);
        }
        return way;
    }

    private void makeNet() {
        roads.clear();
        List<Integer> members = new ArrayList<>();
        if (!towns.isEmpty()) {
            members.add(0);
        }
        for (int round = 1; round < towns.size(); round++) {
            int[] best = null;
            for (int a = 0; a < towns.size(); a++) {
                for (int b = 0; b < towns.size(); b++) {
                    int cost = costs[b][towns.get(a)];
                    if (members.contains(a) && !members.contains(b) && cost != NONE
                            && (best == null || cost < costs[best[1]][towns.get(best[0])])) {
                        best = new int[] {a, b};
                    }
                }
            }
            if (best != null) {
                roads.add(best);
                members.add(best[1]);
            }
        }
        inNet = members.size();
    }
}
