import java.util.Arrays;

/** Made lands: heights from a seed, water that runs down, towns and the roads between them. */
public final class MadeLand {
    public static final int NONE = -6, UNKNOWN = -1, OUTSIDE = -2, FULL = -4;

    private static final int SEA = 1, LAKE = 2, RIVER = 4, DRY = 8, TOWN = 16, ROAD = 32;

    private static final int LEAST_SIZE = 4, FIRST_SIZE = 12, MOST_SIZE = 24;
    private static final int MOST_PLACES = MOST_SIZE * MOST_SIZE;
    private static final int FARTHEST_WINDOW = 100000, FARTHEST_POINT = 200000;
    private static final int MOST_CHANGES = 30, GREATEST_CHANGE = 400, MOST_HEIGHT = 400;
    private static final int MOST_TOWNS = 6;

    private static final int RULE_SEA = 0, RULE_STREAM = 1, RULE_GAP = 2, RULE_BRIDGE = 3, RULES = 4;
    private static final int[] RULE_LEAST = {0, 2, 1, 0};
    private static final int[] RULE_FIRST = {80, 8, 4, 20};
    private static final int[] RULE_MOST = {255, 200, 12, 100};

    private static final int CHANGED_UNKNOWN = -1001, CHANGED_OUTSIDE = -1002;
    private static final int NET_ROADS = 10;

    /** What is made already; each stage needs the one before it. */
    private static final int NOTHING_MADE = 0, GROUND_MADE = 1, WATER_MADE = 2, TOWNS_MADE = 3, NET_MADE = 4;

    private final Terrain terrain = new Terrain();
    private final Water water = new Water();
    private final Pools pools = new Pools();
    private final Settlements settlements = new Settlements();
    private final Network network = new Network();
    private final Heap heap = new Heap();
    private final Row rules = new Row(RULES);
    private int wanted = 0;
    private int made = NOTHING_MADE;

    public MadeLand() {
        for (int what = 0; what < RULE_FIRST.length; what++) {
            rules.put(what, RULE_FIRST[what]);
        }
    }

    // ---- 1 the world

    public int seed(int s) {
        int before = terrain.seed;
        terrain.seed = s;
        keepUpTo(NOTHING_MADE);
        return before;
    }

    public int ground(int x, int y) {
        if (!within(x, 0, FARTHEST_POINT) || !within(y, 0, FARTHEST_POINT)) {
            return OUTSIDE;
        }
        return terrain.groundOf(x, y);
    }

    public int size(int n) {
        if (!within(n, LEAST_SIZE, MOST_SIZE)) {
            return OUTSIDE;
        }
        int before = terrain.side;
        terrain.side = n;
        terrain.places = n * n;
        keepUpTo(NOTHING_MADE);
        return before;
    }

    public int window(int x, int y) {
        if (!within(x, 0, FARTHEST_WINDOW) || !within(y, 0, FARTHEST_WINDOW)) {
            return OUTSIDE;
        }
        terrain.left = x;
        terrain.top = y;
        keepUpTo(NOTHING_MADE);
        return 1;
    }

    public int change(int place, int by) {
        if (!terrain.hasPlace(place)) {
            return UNKNOWN;
        }
        if (by == 0 || !within(by, -GREATEST_CHANGE, GREATEST_CHANGE)) {
            return OUTSIDE;
        }
        if (terrain.changes >= MOST_CHANGES) {
            return FULL;
        }
        makeUpTo(GROUND_MADE);
        terrain.addChange(place, by);
        keepUpTo(GROUND_MADE);
        return terrain.changes;
    }

    public int changed(int i, int what) {
        if (!within(i, 0, terrain.changes - 1)) {
            return CHANGED_UNKNOWN;
        }
        switch (what) {
            case 0: return terrain.changeX.at(i);
            case 1: return terrain.changeY.at(i);
            case 2: return terrain.changeBy.at(i);
            default: return CHANGED_OUTSIDE;
        }
    }

    public int undo() {
        if (terrain.changes <= 0) {
            return UNKNOWN;
        }
        terrain.changes--;
        keepUpTo(GROUND_MADE);
        return terrain.changes;
    }

    // ---- 2 water

    public int rule(int what, int v) {
        if (!within(what, 0, RULES - 1) || !within(v, RULE_LEAST[what], RULE_MOST[what])) {
            return OUTSIDE;
        }
        int before = rules.at(what);
        rules.put(what, v);
        keepUpTo(stageAhead(what));
        return before;
    }

    public int about(int place, int what) {
        if (!terrain.hasPlace(place)) {
            return UNKNOWN;
        }
        makeUpTo(TOWNS_MADE);
        switch (what) {
            case 0: return terrain.height.at(place);
            case 1: return water.level.at(place);
            case 2: return water.down.at(place);
            case 3: return water.flow.at(place);
            case 4: return water.outlet.at(place);
            case 5: return water.turn.at(place);
            case 6: return settlements.worth.at(place);
            default: return OUTSIDE;
        }
    }

    public int is(int place) {
        if (!terrain.hasPlace(place)) {
            return UNKNOWN;
        }
        makeUpTo(NET_MADE);
        return signsOf(place);
    }

    public int many(int what) {
        if (!within(what, SEA, ROAD) || Integer.bitCount(what) != 1) {
            return OUTSIDE;
        }
        makeUpTo(NET_MADE);
        int found = 0;
        for (int place = 0; place < terrain.places; place++) {
            if ((signsOf(place) & what) != 0) {
                found++;
            }
        }
        return found;
    }

    public int lakes() {
        makeUpTo(WATER_MADE);
        return pools.count;
    }

    public int lake(int place) {
        if (!terrain.hasPlace(place)) {
            return UNKNOWN;
        }
        makeUpTo(WATER_MADE);
        return pools.placesAt(place);
    }

    // ---- 3 towns, roads

    public int towns(int n) {
        if (!within(n, 0, MOST_TOWNS)) {
            return OUTSIDE;
        }
        wanted = n;
        keepUpTo(WATER_MADE);
        makeUpTo(TOWNS_MADE);
        return settlements.count;
    }

    public int town(int t) {
        makeUpTo(TOWNS_MADE);
        return isTown(t) ? settlements.place.at(t) : UNKNOWN;
    }

    public int cost(int a, int b) {
        makeUpTo(NET_MADE);
        if (!isTown(a) || !isTown(b)) {
            return UNKNOWN;
        }
        return network.costOf(settlements.place.at(a), b);
    }

    public int way(int a, int b, int i) {
        makeUpTo(NET_MADE);
        if (!isTown(a) || !isTown(b)) {
            return UNKNOWN;
        }
        return network.placeOfWay(terrain, water, settlements.place.at(a), b, i);
    }

    public int net(int what) {
        if (what < 0 || what > 2 && what < NET_ROADS) {
            return OUTSIDE;
        }
        makeUpTo(NET_MADE);
        switch (what) {
            case 0: return network.members;
            case 1: return network.total;
            case 2: return network.roadCount;
            default: return network.endOfRoad(what - NET_ROADS);
        }
    }

    public int roads(int place) {
        if (!terrain.hasPlace(place)) {
            return UNKNOWN;
        }
        makeUpTo(NET_MADE);
        return network.over.at(place);
    }

    public int told(int what) {
        switch (what) {
            case 0: return terrain.side;
            case 1: return terrain.left;
            case 2: return terrain.top;
            case 3: return rules.at(RULE_SEA);
            case 4: return rules.at(RULE_STREAM);
            case 5: return rules.at(RULE_GAP);
            case 6: return rules.at(RULE_BRIDGE);
            case 7: makeUpTo(TOWNS_MADE);
                return settlements.count;
            case 8: return wanted;
            case 9: return terrain.changes;
            case 10: return terrain.seed;
            default: return OUTSIDE;
        }
    }

    // ---- what is made, and when

    private static boolean within(int v, int least, int most) {
        return v >= least && v <= most;
    }

    /** The last stage that a rule leaves as it is. */
    private static int stageAhead(int rule) {
        if (rule == RULE_BRIDGE) {
            return TOWNS_MADE;
        }
        return rule == RULE_GAP ? WATER_MADE : GROUND_MADE;
    }

    private void keepUpTo(int stage) {
        made = Math.min(made, stage);
    }

    private void makeUpTo(int stage) {
        if (made < GROUND_MADE && stage >= GROUND_MADE) {
            terrain.growGround();
        }
        if (made < WATER_MADE && stage >= WATER_MADE) {
            terrain.raiseHeights();
            water.run(terrain, heap, rules.at(RULE_SEA), rules.at(RULE_STREAM));
            pools.gather(terrain, water);
        }
        if (made < TOWNS_MADE && stage >= TOWNS_MADE) {
            settlements.found(terrain, water, wanted, rules.at(RULE_GAP));
        }
        if (made < NET_MADE && stage >= NET_MADE) {
            network.build(terrain, water, settlements, heap, rules.at(RULE_BRIDGE));
        }
        made = Math.max(made, stage);
    }

    private boolean isTown(int t) {
        return within(t, 0, settlements.count - 1);
    }

    private int signsOf(int place) {
        int signs = water.kind.at(place);
        if (settlements.isAt(place)) {
            signs |= TOWN;
        }
        if (network.over.at(place) > 0) {
            signs |= ROAD;
        }
        return signs;
    }

    /** Numbers in a row: one read from beyond it is NONE, one written beyond it is let go. */
    private static final class Row {
        private final int[] cells;

        Row(int length) {
            cells = new int[Math.max(length, 0)];
        }

        int at(int i) {
            return i >= 0 && i < cells.length ? cells[i] : NONE;
        }

        void put(int i, int value) {
            if (i >= 0 && i < cells.length) {
                cells[i] = value;
            }
        }

        void add(int i, int value) {
            put(i, at(i) + value);
        }

        void fill(int value) {
            Arrays.fill(cells, value);
        }
    }

    /** Places by rank: the least rank comes out first, of several the least place. */
    private static final class Heap {
        /** Ten bits hold every place; the ranks stay below two millions. */
        private static final int PLACE_BITS = 10, PLACE_MASK = 1023;
        /** A place is put in at most once from each of its four sides. */
        private static final int MOST_KEYS = 4 * MOST_PLACES + 4;

        private final Row keys = new Row(MOST_KEYS);
        private int count = 0;
        private int lastKey = 0;

        void empty() {
            count = 0;
        }

        void insert(int rank, int place) {
            if (count >= MOST_KEYS) {
                return;
            }
            int key = rank << PLACE_BITS | place & PLACE_MASK;
            int hole = count;
            count++;
            while (hole > 0 && keys.at(hole - 1 >> 1) > key) {
                keys.put(hole, keys.at(hole - 1 >> 1));
                hole = hole - 1 >> 1;
            }
            keys.put(hole, key);
        }

        /** Takes the first one out; false if there is none. */
        boolean remove() {
            if (count <= 0) {
                return false;
            }
            lastKey = keys.at(0);
            count--;
            sink(keys.at(count));
            return true;
        }

        int removedPlace() {
            return lastKey & PLACE_MASK;
        }

        int removedRank() {
            return lastKey >> PLACE_BITS;
        }

        private void sink(int key) {
            int hole = 0;
            int child = 1;
            while (child < count) {
                if (child + 1 < count && keys.at(child + 1) < keys.at(child)) {
                    child++;
                }
                if (keys.at(child) >= key) {
                    break;
                }
                keys.put(hole, keys.at(child));
                hole = child;
                child = 2 * hole + 1;
            }
            keys.put(hole, key);
        }
    }

    /** The ground under the window, and the changes by hand. */
    private static final class Terrain {
        private static final int EDGES = 4;

        private int seed = 0;
        private int side = FIRST_SIZE;
        private int places = FIRST_SIZE * FIRST_SIZE;
        private int left = 0;
        private int top = 0;
        private int changes = 0;
        private final Row changeX = new Row(MOST_CHANGES);
        private final Row changeY = new Row(MOST_CHANGES);
        private final Row changeBy = new Row(MOST_CHANGES);
        private final Row column = new Row(MOST_PLACES);
        private final Row line = new Row(MOST_PLACES);
        private final Row bare = new Row(MOST_PLACES);
        private final Row height = new Row(MOST_PLACES);

        boolean hasPlace(int place) {
            return place >= 0 && place < places;
        }

        void growGround() {
            for (int y = 0; y < side; y++) {
                for (int x = 0; x < side; x++) {
                    int place = side * y + x;
                    column.put(place, x);
                    line.put(place, y);
                    bare.put(place, groundOf(left + x, top + y));
                }
            }
        }

        int groundOf(int x, int y) {
            return (4 * layerOf(0, x, y) + 2 * layerOf(1, x, y) + layerOf(2, x, y)) / 7;
        }

        /** The pitch is a power of two, so shifts and masks stand for the quotients and what is left. */
        private int layerOf(int layer, int x, int y) {
            int bits = 3 - layer;
            int pitch = 1 << bits;
            int i = x >> bits;
            int j = y >> bits;
            int u = x & pitch - 1;
            int v = y & pitch - 1;
            int upper = cornerOf(layer, i, j) * (pitch - u) + cornerOf(layer, i + 1, j) * u;
            int lower = cornerOf(layer, i, j + 1) * (pitch - u) + cornerOf(layer, i + 1, j + 1) * u;
            return upper * (pitch - v) + lower * v >> 2 * bits;
        }

        private int cornerOf(int layer, int i, int j) {
            int m = seed * 73856093 + layer * 19349663 + i * 83492791 + j * 265443576;
            m = (m ^ m >>> 15) * 739982445;
            m = (m ^ m >>> 15) * 739982445;
            return m >>> 16 & 255;
        }

        void addChange(int place, int by) {
            changeX.put(changes, left + column.at(place));
            changeY.put(changes, top + line.at(place));
            changeBy.put(changes, by);
            changes++;
        }

        /** The bounds of a height hold for the whole sum, not after each change. */
        void raiseHeights() {
            for (int place = 0; place < places; place++) {
                height.put(place, bare.at(place));
            }
            for (int i = 0; i < changes; i++) {
                int x = changeX.at(i) - left;
                int y = changeY.at(i) - top;
                if (within(x, 0, side - 1) && within(y, 0, side - 1)) {
                    height.add(side * y + x, changeBy.at(i));
                }
            }
            for (int place = 0; place < places; place++) {
                height.put(place, Math.max(0, Math.min(height.at(place), MOST_HEIGHT)));
            }
        }

        /** The place over one of the four edges of another, by rising numbers; NONE over the rim. */
        int beside(int place, int edge) {
            switch (edge) {
                case 0: return line.at(place) > 0 ? place - side : NONE;
                case 1: return column.at(place) > 0 ? place - 1 : NONE;
                case 2: return column.at(place) < side - 1 ? place + 1 : NONE;
                case 3: return line.at(place) < side - 1 ? place + side : NONE;
                default: return NONE;
            }
        }

        boolean isRim(int place) {
            int x = column.at(place);
            int y = line.at(place);
            return x == 0 || y == 0 || x == side - 1 || y == side - 1;
        }

        int rowsAndColumnsBetween(int a, int b) {
            return Math.abs(column.at(a) - column.at(b)) + Math.abs(line.at(a) - line.at(b));
        }
    }

    /** Where the water stands, where it runs to, and what each place is by it. */
    private static final class Water {
        /** Above every level. */
        private static final int NO_LEVEL = 1000000;

        private final Row level = new Row(MOST_PLACES);
        private final Row down = new Row(MOST_PLACES);
        private final Row flow = new Row(MOST_PLACES);
        private final Row outlet = new Row(MOST_PLACES);
        private final Row turn = new Row(MOST_PLACES);
        private final Row takenAt = new Row(MOST_PLACES);
        private final Row leastBeside = new Row(MOST_PLACES);
        private final Row kind = new Row(MOST_PLACES);
        private int taken = 0;

        void run(Terrain land, Heap heap, int sea, int stream) {
            taken = 0;
            heap.empty();
            turn.fill(NONE);
            leastBeside.fill(NO_LEVEL);
            takeOutlets(land, heap, sea);
            takeOthers(land, heap);
            gatherFlow(land);
            for (int place = 0; place < land.places; place++) {
                kind.put(place, kindOf(land.height.at(place), place, sea, stream));
            }
        }

        private void takeOutlets(Terrain land, Heap heap, int sea) {
            for (int place = 0; place < land.places; place++) {
                int height = land.height.at(place);
                if (height < sea || land.isRim(place)) {
                    level.put(place, height < sea ? sea : height);
                    down.put(place, NONE);
                    outlet.put(place, place);
                    take(land, heap, place);
                }
            }
        }

        /** A place may be in the heap with waters that have sunk since; the least one comes out first and counts. */
        private void takeOthers(Terrain land, Heap heap) {
            for (int i = 0; i < Heap.MOST_KEYS && heap.remove(); i++) {
                int place = heap.removedPlace();
                if (turn.at(place) == NONE) {
                    level.put(place, heap.removedRank());
                    int next = firstTakenBeside(land, place);
                    down.put(place, next);
                    outlet.put(place, outlet.at(next));
                    take(land, heap, place);
                }
            }
        }

        private void take(Terrain land, Heap heap, int place) {
            turn.put(place, taken);
            takenAt.put(taken, place);
            taken++;
            for (int edge = 0; edge < Terrain.EDGES; edge++) {
                int other = land.beside(place, edge);
                if (other != NONE && turn.at(other) == NONE && level.at(place) < leastBeside.at(other)) {
                    leastBeside.put(other, level.at(place));
                    heap.insert(Math.max(level.at(place), land.height.at(other)), other);
                }
            }
        }

        private int firstTakenBeside(Terrain land, int place) {
            int first = NONE;
            for (int edge = 0; edge < Terrain.EDGES; edge++) {
                int other = land.beside(place, edge);
                if (other != NONE && turn.at(other) != NONE && level.at(other) == leastBeside.at(place)
                        && (first == NONE || turn.at(other) < turn.at(first))) {
                    first = other;
                }
            }
            return first;
        }

        /** What was taken later runs down to what was taken earlier: backwards, each flow is whole when it is handed on. */
        private void gatherFlow(Terrain land) {
            flow.fill(1);
            for (int i = taken - 1; i >= 0; i--) {
                int place = takenAt.at(i);
                if (down.at(place) != NONE) {
                    flow.add(down.at(place), flow.at(place));
                }
            }
        }

        private int kindOf(int height, int place, int sea, int stream) {
            if (height < sea) {
                return SEA;
            }
            if (level.at(place) > height) {
                return LAKE;
            }
            return flow.at(place) >= stream ? RIVER : DRY;
        }

        boolean isPassable(int place) {
            return kind.at(place) == RIVER || kind.at(place) == DRY;
        }
    }

    /** The lakes: lake places of one level that hang together. */
    private static final class Pools {
        private final Row pool = new Row(MOST_PLACES);
        private final Row extent = new Row(MOST_PLACES);
        private final Row reached = new Row(MOST_PLACES);
        private int count = 0;

        void gather(Terrain land, Water water) {
            count = 0;
            pool.fill(NONE);
            for (int place = 0; place < land.places; place++) {
                if (water.kind.at(place) == LAKE && pool.at(place) == NONE) {
                    extent.put(count, spread(land, water, place));
                    count++;
                }
            }
        }

        /** Marks the whole lake from one of its places on: how many places it has. */
        private int spread(Terrain land, Water water, int start) {
            pool.put(start, count);
            reached.put(0, start);
            int found = 1;
            for (int i = 0; i < found && i < MOST_PLACES; i++) {
                int place = reached.at(i);
                for (int edge = 0; edge < Terrain.EDGES; edge++) {
                    int other = land.beside(place, edge);
                    if (other != NONE && pool.at(other) == NONE && water.kind.at(other) == LAKE
                            && water.level.at(other) == water.level.at(start)) {
                        pool.put(other, count);
                        reached.put(found, other);
                        found++;
                    }
                }
            }
            return found;
        }

        int placesAt(int place) {
            return pool.at(place) == NONE ? 0 : extent.at(pool.at(place));
        }
    }

    /** The worth of places, and the towns where it is greatest. */
    private static final class Settlements {
        private static final int WORTH_OF_NO_HEIGHT = 500, MOST_WORTH_OF_RIVER = 60;

        private final Row worth = new Row(MOST_PLACES);
        private final Row place = new Row(MOST_TOWNS);
        private int count = 0;

        void found(Terrain land, Water water, int wanted, int gap) {
            for (int p = 0; p < land.places; p++) {
                worth.put(p, worthOf(land, water, p));
            }
            count = 0;
            for (int t = 0; t < wanted; t++) {
                int best = bestPlace(land, gap);
                if (best == NONE) {
                    break;
                }
                place.put(count, best);
                count++;
            }
        }

        private static int worthOf(Terrain land, Water water, int p) {
            if (water.kind.at(p) != DRY) {
                return NONE;
            }
            int river = 0;
            for (int edge = 0; edge < Terrain.EDGES; edge++) {
                int other = land.beside(p, edge);
                if (other != NONE && water.kind.at(other) == RIVER) {
                    river = Math.max(river, water.flow.at(other));
                }
            }
            return WORTH_OF_NO_HEIGHT - land.height.at(p) + Math.min(river, MOST_WORTH_OF_RIVER);
        }

        private int bestPlace(Terrain land, int gap) {
            int best = NONE;
            for (int p = 0; p < land.places; p++) {
                if (worth.at(p) != NONE && isFarFromAll(land, p, gap)
                        && (best == NONE || worth.at(p) > worth.at(best))) {
                    best = p;
                }
            }
            return best;
        }

        private boolean isFarFromAll(Terrain land, int p, int gap) {
            for (int t = 0; t < count; t++) {
                if (land.rowsAndColumnsBetween(p, place.at(t)) < gap) {
                    return false;
                }
            }
            return true;
        }

        boolean isAt(int p) {
            for (int t = 0; t < count; t++) {
                if (place.at(t) == p) {
                    return true;
                }
            }
            return false;
        }
    }

    /** What ways to each town cost, and the net of roads. */
    private static final class Network {
        private static final int PLAIN_STEP = 10;
        /** Above the cost of every way. */
        private static final int NO_COST = 1000000000;

        /** What the cheapest way from a place to town t costs stands at MOST_PLACES t + place; NONE: there is no way. */
        private final Row costs = new Row(MOST_TOWNS * MOST_PLACES);
        private final Row over = new Row(MOST_PLACES);
        private final Row isMember = new Row(MOST_TOWNS);
        private final Row roadEnds = new Row(2 * MOST_TOWNS);
        private int bridge = 0;
        private int members = 0;
        private int total = 0;
        private int roadCount = 0;

        void build(Terrain land, Water water, Settlements settlements, Heap heap, int bridgeCost) {
            bridge = bridgeCost;
            for (int t = 0; t < settlements.count; t++) {
                findCosts(land, water, heap, t, settlements.place.at(t));
            }
            members = settlements.count > 0 ? 1 : 0;
            total = 0;
            roadCount = 0;
            isMember.fill(0);
            isMember.put(0, 1);
            for (int t = 1; t < settlements.count; t++) {
                joinCheapest(settlements);
            }
            over.fill(0);
            for (int road = 0; road < roadCount; road++) {
                layRoad(land, water, settlements.place.at(roadEnds.at(2 * road)), roadEnds.at(2 * road + 1));
            }
        }

        int costOf(int place, int town) {
            return costs.at(MOST_PLACES * town + place);
        }

        /** Costs are the same both ways, so that they are found from the town outwards. */
        private void findCosts(Terrain land, Water water, Heap heap, int town, int start) {
            int base = MOST_PLACES * town;
            for (int place = 0; place < land.places; place++) {
                costs.put(base + place, NONE);
            }
            heap.empty();
            costs.put(base + start, 0);
            heap.insert(0, start);
            for (int i = 0; i < Heap.MOST_KEYS && heap.remove(); i++) {
                int place = heap.removedPlace();
                int cost = heap.removedRank();
                if (cost == costs.at(base + place)) {
                    spreadCosts(land, water, heap, base, place);
                }
            }
        }

        private void spreadCosts(Terrain land, Water water, Heap heap, int base, int place) {
            for (int edge = 0; edge < Terrain.EDGES; edge++) {
                int other = land.beside(place, edge);
                if (other != NONE && water.isPassable(other)) {
                    int cost = costs.at(base + place) + stepCost(land, water, place, other);
                    int before = costs.at(base + other);
                    if (before == NONE || cost < before) {
                        costs.put(base + other, cost);
                        heap.insert(cost, other);
                    }
                }
            }
        }

        private int stepCost(Terrain land, Water water, int a, int b) {
            boolean river = water.kind.at(a) == RIVER || water.kind.at(b) == RIVER;
            return PLAIN_STEP + Math.abs(land.height.at(a) - land.height.at(b)) + (river ? bridge : 0);
        }

        /** The next place on the cheapest way to a town; NONE at its end. */
        private int nextPlace(Terrain land, Water water, int place, int town) {
            for (int edge = 0; edge < Terrain.EDGES; edge++) {
                int other = land.beside(place, edge);
                if (other != NONE && water.isPassable(other) && costOf(other, town) != NONE
                        && costOf(other, town) + stepCost(land, water, place, other) == costOf(place, town)) {
                    return other;
                }
            }
            return NONE;
        }

        int placeOfWay(Terrain land, Water water, int start, int town, int i) {
            if (i < 0 || i >= land.places || costOf(start, town) == NONE) {
                return NONE;
            }
            int place = start;
            for (int step = 0; step < i && place != NONE; step++) {
                place = nextPlace(land, water, place, town);
            }
            return place;
        }

        private void joinCheapest(Settlements settlements) {
            int first = NONE;
            int second = NONE;
            int least = NO_COST;
            for (int a = 0; a < settlements.count; a++) {
                for (int b = 0; b < settlements.count; b++) {
                    int cost = costOf(settlements.place.at(a), b);
                    if (isMember.at(a) == 1 && isMember.at(b) == 0 && cost != NONE && cost < least) {
                        first = a;
                        second = b;
                        least = cost;
                    }
                }
            }
            if (first != NONE) {
                isMember.put(second, 1);
                members++;
                total += least;
                roadEnds.put(2 * roadCount, first);
                roadEnds.put(2 * roadCount + 1, second);
                roadCount++;
            }
        }

        private void layRoad(Terrain land, Water water, int start, int town) {
            int place = start;
            for (int step = 0; step < land.places && place != NONE; step++) {
                over.add(place, 1);
                place = nextPlace(land, water, place, town);
            }
        }

        int endOfRoad(int i) {
            return i < 2 * roadCount ? roadEnds.at(i) : NONE;
        }
    }
}
