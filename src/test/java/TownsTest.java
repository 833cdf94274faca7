import java.util.Arrays;

/** Promises 15 to 21: towns, ways, the net and what is told, on lands made by hand. */
public final class TownsTest {
    private static final Checks CHECKS = new Checks();

    public static void main(String[] args) {
        towns();
        worths();
        gaps();
        costs();
        bridges();
        ways();
        wayOfLeastCost();
        nets();
        partedNet();
        roads();
        told();
        CHECKS.end();
    }

    private static void due(String call, long got, long want) {
        CHECKS.due(call, got, want);
    }

    /** All is level and dry: towns at 0, 4, 12, 20 and 24. */
    private static MadeLand plain() {
        MadeLand x = Checks.flatLand(100);
        x.towns(6);
        return x;
    }

    private static void dueWay(MadeLand x, int a, int b, int... want) {
        int[] got = new int[want.length];
        for (int i = 0; i < want.length; i++) {
            got[i] = x.way(a, b, i);
        }
        due("way(" + a + ", " + b + ", ..): " + Arrays.toString(got), Arrays.equals(got, want) ? 1 : 0, 1);
        due("way(" + a + ", " + b + ", beyond)", x.way(a, b, want.length), -6);
    }

    private static void towns() {
        CHECKS.of("promises 15 and 16");
        MadeLand x = Checks.flatLand(100);
        due("town(0)", x.town(0), -1);
        due("towns(-1)", x.towns(-1), -2);
        due("towns(7)", x.towns(7), -2);
        due("towns(MIN)", x.towns(Integer.MIN_VALUE), -2);
        due("told(8)", x.told(8), 0);
        due("towns(6), there is room for 5", x.towns(6), 5);
        int[] places = {0, 4, 12, 20, 24};
        for (int t = 0; t < 5; t++) {
            due("town(" + t + ")", x.town(t), places[t]);
        }
        due("town(5), wanted but not there", x.town(5), -1);
        due("town(-1)", x.town(-1), -1);
        due("town(MAX)", x.town(Integer.MAX_VALUE), -1);
        due("towns(2)", x.towns(2), 2);
        due("town(2)", x.town(2), -1);
        due("towns(0)", x.towns(0), 0);
        due("town(0)", x.town(0), -1);
        x.towns(3);
        x.rule(0, 101);
        due("town(0), all is sea", x.town(0), -1);
        due("towns(3), all is sea", x.towns(3), 0);
        x.rule(0, 100);
        due("town(2), dry again", x.town(2), 12);
    }

    private static void worths() {
        CHECKS.of("promises 10 and 16, worth");
        MadeLand x = Checks.flatLand(100);
        x.change(18, -10);
        x.change(6, -10);
        x.rule(0, 0);
        due("about(6, 6), a lake", x.about(6, 6), -6);
        x.towns(3);
        due("town(0), lakes are no place for it", x.town(0), 0);
        x.undo();
        x.undo();
        x.change(14, -10);
        x.change(22, -10);
        x.towns(2);
        due("about(14, 6)", x.about(14, 6), 410);
        due("town(0), of several the least number", x.town(0), 14);
        due("town(1)", x.town(1), 22);
        riverWorth();
    }

    /** Wide lands, whose rivers have flows above 60. */
    private static void riverWorth() {
        int most = 0;
        for (int seed = 0; seed < 8; seed++) {
            for (int y = 1; y < 23; y++) {
                most = Math.max(most, riverWorthOfRow(seed, y));
            }
        }
        due("a river of more than 60 was there", most > 60 ? 1 : 0, 1);
    }

    /** The greatest flow that was found beside a dry place of the row. */
    private static int riverWorthOfRow(int seed, int y) {
        MadeLand x = new MadeLand();
        x.seed(seed);
        x.size(24);
        x.rule(1, 2);
        int most = 0;
        for (int place = 24 * y + 1; place < 24 * y + 23; place++) {
            int greatest = 0;
            for (int other : new int[] {place - 24, place - 1, place + 1, place + 24}) {
                greatest = x.is(other) == 4 ? Math.max(greatest, x.about(other, 3)) : greatest;
            }
            if (x.is(place) == 8) {
                due("rise at " + place, x.about(place, 6) + x.about(place, 0) - 500, Math.min(greatest, 60));
                most = Math.max(most, greatest);
            }
        }
        return most;
    }

    private static void gaps() {
        CHECKS.of("promise 9, the gap");
        MadeLand x = plain();
        due("rule(2, 1)", x.rule(2, 1), 4);
        for (int t = 0; t < 6; t++) {
            due("town(" + t + ") of gap 1", x.town(t), t);
        }
        due("rule(2, 8)", x.rule(2, 8), 1);
        due("town(1) of gap 8", x.town(1), 24);
        due("town(2) of gap 8", x.town(2), -1);
        due("told(7)", x.told(7), 2);
        due("rule(2, 9)", x.rule(2, 9), 8);
        due("told(7)", x.told(7), 1);
        due("town(1) of gap 9", x.town(1), -1);
        due("told(8)", x.told(8), 6);
    }

    private static void costs() {
        CHECKS.of("promise 17");
        MadeLand x = plain();
        int[] near = {40, 40, 40, 80};
        for (int b = 1; b < 5; b++) {
            due("cost(0, " + b + ")", x.cost(0, b), near[b - 1]);
            due("cost(" + b + ", 0)", x.cost(b, 0), near[b - 1]);
        }
        due("cost(3, 3)", x.cost(3, 3), 0);
        due("cost(0, 5)", x.cost(0, 5), -1);
        due("cost(5, 0)", x.cost(5, 0), -1);
        due("cost(-1, 0)", x.cost(-1, 0), -1);
        due("cost(5, 5)", x.cost(5, 5), -1);
        due("cost(MIN, MAX)", x.cost(Integer.MIN_VALUE, Integer.MAX_VALUE), -1);
        x.change(2, 7);
        x.change(7, 7);
        due("cost(0, 1), over a small ridge or round it", x.cost(0, 1), 54);
        x.change(2, 90);
        due("cost(0, 1), round a high ridge's end", x.cost(0, 1), 68 - 8 + 14);
    }

    /** The rows above and below a channel that all water leaves by. */
    private static void bridges() {
        CHECKS.of("promise 17, bridges");
        MadeLand x = channel();
        due("is(10), the channel's mouth", x.is(10) & 4, 4);
        x.rule(2, 4);
        x.towns(2);
        due("town(0)", x.town(0), 0);
        due("town(1)", x.town(1), 20);
        due("cost(0, 1), by a bridge or round the channel", x.cost(0, 1), 140);
        dueWay(x, 0, 1, 0, 1, 2, 3, 4, 9, 14, 19, 18, 17, 16, 15, 20);
        due("rule(3, 19)", x.rule(3, 19), 20);
        due("cost(0, 1), two steps with a bridge", x.cost(0, 1), 138);
        dueWay(x, 0, 1, 0, 5, 10, 15, 20);
        due("rule(3, 0)", x.rule(3, 0), 19);
        due("cost(0, 1), bridges for nothing", x.cost(0, 1), 100);
        due("rule(3, 100)", x.rule(3, 100), 0);
        due("cost(0, 1), round the channel", x.cost(0, 1), 140);
    }

    private static MadeLand channel() {
        MadeLand x = Checks.land(new int[][] {
            {100, 110, 110, 110, 110},
            {110, 110, 110, 110, 110},
            {90, 91, 92, 93, 110},
            {110, 110, 110, 110, 110},
            {100, 110, 110, 110, 110}});
        x.rule(1, 2);
        return x;
    }

    private static void ways() {
        CHECKS.of("promise 18");
        MadeLand x = plain();
        dueWay(x, 0, 1, 0, 1, 2, 3, 4);
        dueWay(x, 0, 2, 0, 1, 2, 7, 12);
        dueWay(x, 2, 0, 12, 7, 2, 1, 0);
        dueWay(x, 4, 0, 24, 19, 14, 9, 4, 3, 2, 1, 0);
        dueWay(x, 2, 2, 12);
        due("way(0, 1, MAX)", x.way(0, 1, Integer.MAX_VALUE), -6);
        due("way(0, 1, 25)", x.way(0, 1, 25), -6);
        due("way(0, 5, 0)", x.way(0, 5, 0), -1);
        due("way(5, 0, 0)", x.way(5, 0, 0), -1);
        due("way(-1, 0, 0)", x.way(-1, 0, 0), -1);
        due("way(9, 9, 99)", x.way(9, 9, 99), -1);
    }

    /** From 0 the place 1 is nearer to the other town than 5, but to climb there costs more than to go round. */
    private static void wayOfLeastCost() {
        CHECKS.of("promise 18, what is left and the step together");
        MadeLand x = plain();
        x.change(1, 50);
        x.change(2, 50);
        x.towns(5);
        int town = 0;
        for (int t = 0; t < 5; t++) {
            town = x.town(t) == 4 ? t : town;
        }
        dueWay(x, 0, town, 0, 5, 6, 7, 8, 3, 4);
        due("cost(0, 4's)", x.cost(0, town), 60);
    }

    private static void nets() {
        CHECKS.of("promise 19");
        MadeLand x = plain();
        due("net(0)", x.net(0), 5);
        due("net(1)", x.net(1), 160);
        due("net(2)", x.net(2), 4);
        int[] ends = {0, 1, 0, 2, 0, 3, 1, 4};
        for (int i = 0; i < ends.length; i++) {
            due("net(" + (10 + i) + ")", x.net(10 + i), ends[i]);
        }
        due("net(18)", x.net(18), -6);
        due("net(19)", x.net(19), -6);
        due("net(20)", x.net(20), -6);
        due("net(1000)", x.net(1000), -6);
        due("net(MAX)", x.net(Integer.MAX_VALUE), -6);
        int[] wrong = {-1, 3, 4, 5, 6, 7, 8, 9, Integer.MIN_VALUE};
        for (int what : wrong) {
            due("net(" + what + ")", x.net(what), -2);
        }
        x.towns(1);
        due("net(0) of one town", x.net(0), 1);
        due("net(1) of one town", x.net(1), 0);
        due("net(2) of one town", x.net(2), 0);
        due("net(10) of one town", x.net(10), -6);
    }

    /** A strait of sea in the middle column. */
    private static void partedNet() {
        CHECKS.of("promises 17 to 20, no way");
        MadeLand x = Checks.flatLand(100);
        for (int y = 0; y < 5; y++) {
            x.change(5 * y + 2, -100);
        }
        due("towns(4)", x.towns(4), 4);
        due("town(1), over the strait", x.town(1), 4);
        due("town(2)", x.town(2), 16);
        due("town(3)", x.town(3), 24);
        due("cost(0, 1)", x.cost(0, 1), -6);
        due("cost(1, 0)", x.cost(1, 0), -6);
        due("cost(1, 1)", x.cost(1, 1), 0);
        due("way(0, 1, 0)", x.way(0, 1, 0), -6);
        due("way(0, 1, 1)", x.way(0, 1, 1), -6);
        due("cost(0, 2)", x.cost(0, 2), 40);
        due("cost(1, 3)", x.cost(1, 3), 40);
        due("net(0)", x.net(0), 2);
        due("net(1)", x.net(1), 40);
        due("net(2)", x.net(2), 1);
        due("net(10)", x.net(10), 0);
        due("net(11)", x.net(11), 2);
        due("net(12)", x.net(12), -6);
        due("roads(4)", x.roads(4), 0);
        due("roads(11)", x.roads(11), 1);
        due("roads(10)", x.roads(10), 0);
        due("many(32)", x.many(32), 5);
        x.change(12, 100);
        due("net(0), an isthmus", x.net(0), 4);
        due("net(2)", x.net(2), 3);
        due("roads(12)", x.roads(12) > 0 ? 1 : 0, 1);
    }

    private static void roads() {
        CHECKS.of("promise 20");
        MadeLand x = plain();
        int[] roads = {
            3, 2, 2, 1, 2,
            1, 0, 1, 0, 1,
            1, 0, 1, 0, 1,
            1, 0, 0, 0, 1,
            1, 0, 0, 0, 1};
        int placesWithRoads = 0;
        for (int place = 0; place < 25; place++) {
            due("roads(" + place + ")", x.roads(place), roads[place]);
            due("is(" + place + ") & 32", x.is(place) & 32, roads[place] > 0 ? 32 : 0);
            placesWithRoads += roads[place] > 0 ? 1 : 0;
        }
        due("many(32)", x.many(32), placesWithRoads);
        due("roads(25)", x.roads(25), -1);
        due("roads(-1)", x.roads(-1), -1);
        due("roads(MAX)", x.roads(Integer.MAX_VALUE), -1);
        x.towns(1);
        due("roads(0), one town", x.roads(0), 0);
    }

    private static void told() {
        CHECKS.of("promise 21");
        MadeLand x = new MadeLand();
        x.size(5);
        x.window(11, 13);
        x.rule(0, 1);
        x.rule(1, 3);
        x.rule(2, 12);
        x.rule(3, 33);
        x.towns(6);
        x.change(3, 9);
        x.seed(-77);
        int[] want = {5, 11, 13, 1, 3, 12, 33, 1, 6, 1, -77};
        for (int what = 0; what < want.length; what++) {
            due("told(" + what + ")", x.told(what), want[what]);
        }
        due("told(11)", x.told(11), -2);
        due("told(-1)", x.told(-1), -2);
        due("told(MIN)", x.told(Integer.MIN_VALUE), -2);
        due("told(MAX)", x.told(Integer.MAX_VALUE), -2);
    }
}
