/** "2 water" and promises 9 to 14: each sentence that names an edge has a test of its own. */
public final class EdgesOfWaterTest {
    private static final int MIN = Integer.MIN_VALUE, MAX = Integer.MAX_VALUE;
    private static final Checks CHECKS = new Checks();

    /** A bowl of one lake, with its spill at place 17 and its outlet at 22. */
    private static final int[][] BOWL = {
        {50, 50, 50, 50, 50},
        {50, 20, 10, 20, 50},
        {50, 20, 10, 20, 50},
        {50, 50, 30, 50, 50},
        {50, 50, 25, 50, 50}};
    /** A lake round an island. */
    private static final int[][] MOAT = {
        {50, 50, 50, 50, 50},
        {50, 10, 10, 10, 50},
        {50, 10, 60, 10, 50},
        {50, 10, 10, 10, 50},
        {50, 50, 50, 50, 50}};
    /** A hollow with a ring of 65 round it, below a rim of 70. */
    private static final int[][] HOLLOW = {
        {70, 70, 70, 70, 70},
        {70, 65, 65, 65, 70},
        {70, 65, 59, 65, 70},
        {70, 65, 65, 65, 70},
        {70, 70, 70, 70, 70}};

    public static void main(String[] args) {
        rulesFromLeastToMost();
        rulesOfNoName();
        rulesAnswerWhichItWas();
        heightAtSea();
        seaOf0();
        seaOf255();
        levelOfSea();
        levelOfTheRim();
        rimOfTheLeastLand();
        outletsFirstByNumbers();
        takenFromZeroEachOnce();
        waterIsHeightIfGreater();
        leastWaterFirst();
        ofSeveralTheLeastNumber();
        downOfTheLeastLevel();
        downTheFirstTaken();
        lakeOnlyAboveHeight();
        seaIsNoLake();
        noLakeAtTheRim();
        flowOfItself();
        flowsOfAllTogether();
        riverAtStream();
        riverAtLeastStream();
        riverAtMostStream();
        seaAndLakeAreNoRiver();
        riverAtTheRim();
        outletsThemselves();
        aboutWhats();
        aboutRefusedInOrder();
        isOfNoPlace();
        manyWhats();
        manyAddUp();
        noLakes();
        lakeOfOnePlace();
        lakeOfTheLeastLand();
        lakeRoundAnIsland();
        lakesAtTheirCorners();
        lakesOfTwoLevels();
        lakesOfOneLevelApart();
        lakeOfNoPlace();
        CHECKS.end();
    }

    private static void due(String call, long got, long want) {
        CHECKS.due(call, got, want);
    }

    private static MadeLand land(int[][] heights, int sea, int stream) {
        MadeLand x = Checks.land(heights);
        x.rule(0, sea);
        x.rule(1, stream);
        return x;
    }

    private static int[] row(MadeLand x, int what) {
        int[] row = new int[x.told(0) * x.told(0)];
        for (int place = 0; place < row.length; place++) {
            row[place] = x.about(place, what);
        }
        return row;
    }

    private static void rulesFromLeastToMost() {
        int[] least = {0, 2, 1, 0};
        int[] first = {80, 8, 4, 20};
        int[] most = {255, 200, 12, 100};
        String[] names = {"SEA 0 to 255; 80 at first", "STREAM 2 to 200; 8 at first", "GAP 1 to 12; 4 at first",
            "BRIDGE 0 to 100; 20 at first"};
        for (int what = 0; what < 4; what++) {
            CHECKS.of(names[what]);
            MadeLand x = new MadeLand();
            int[] wrong = {least[what] - 1, most[what] + 1, MIN, MAX};
            for (int v : wrong) {
                due("rule(" + what + ", " + v + ")", x.rule(what, v), -2);
                due("told(" + (3 + what) + ")", x.told(3 + what), first[what]);
            }
            due("rule(" + what + ", " + least[what] + ")", x.rule(what, least[what]), first[what]);
            due("told(" + (3 + what) + ")", x.told(3 + what), least[what]);
            due("rule(" + what + ", " + most[what] + ")", x.rule(what, most[what]), least[what]);
            due("told(" + (3 + what) + ")", x.told(3 + what), most[what]);
        }
    }

    private static void rulesOfNoName() {
        CHECKS.of("rule: OUTSIDE");
        MadeLand x = new MadeLand();
        int[] wrong = {-1, 4, MIN, MAX};
        for (int what : wrong) {
            due("rule(" + what + ", 5)", x.rule(what, 5), -2);
            due("rule(" + what + ", -1)", x.rule(what, -1), -2);
        }
        int[] first = {80, 8, 4, 20};
        for (int what = 0; what < 4; what++) {
            due("told(" + (3 + what) + ")", x.told(3 + what), first[what]);
        }
    }

    private static void rulesAnswerWhichItWas() {
        CHECKS.of("rule: which it was");
        MadeLand x = new MadeLand();
        due("rule(0, 81)", x.rule(0, 81), 80);
        due("rule(0, 81)", x.rule(0, 81), 81);
        due("rule(0, 256)", x.rule(0, 256), -2);
        due("rule(0, 80)", x.rule(0, 80), 81);
        due("rule(3, 12), each for itself", x.rule(3, 12), 20);
        due("rule(2, 12)", x.rule(2, 12), 4);
        due("rule(1, 12)", x.rule(1, 12), 8);
    }

    private static void heightAtSea() {
        CHECKS.of("SEA, if its HEIGHT is below that");
        MadeLand x = Checks.flatLand(100);
        x.rule(0, 100);
        due("many(1), 100 of 100", x.many(1), 0);
        x.rule(0, 101);
        due("many(1), 100 of 101", x.many(1), 25);
        x.change(12, 1);
        due("many(1), one is 101", x.many(1), 24);
        due("is(12)", x.is(12), 8);
        x.change(0, 1);
        due("is(0), 101 at the rim", x.is(0), 8);
    }

    private static void seaOf0() {
        CHECKS.of("SEA 0: no HEIGHT is below it");
        MadeLand x = Checks.flatLand(0);
        due("many(1)", x.many(1), 25);
        x.rule(0, 0);
        due("many(1), 0 of 0", x.many(1), 0);
        due("is(12)", x.is(12), 8);
        due("about(12, 1)", x.about(12, 1), 0);
        due("about(0, 1)", x.about(0, 1), 0);
        x.rule(0, 1);
        due("many(1), 0 of 1", x.many(1), 25);
        due("about(12, 1)", x.about(12, 1), 1);
    }

    private static void seaOf255() {
        CHECKS.of("SEA 255");
        MadeLand x = Checks.islands(6, new int[] {14, 254}, new int[] {21, 255}, new int[] {5, 255}, new int[] {30, 400});
        due("is(14), 254", x.is(14), 1);
        due("is(21), 255", x.is(21), 8);
        due("about(21, 1)", x.about(21, 1), 255);
        due("is(5), 255 at the rim", x.is(5), 8);
        due("about(30, 1)", x.about(30, 1), 400);
        due("many(1)", x.many(1), 33);
    }

    private static void levelOfSea() {
        CHECKS.of("SEA: its LEVEL is that");
        MadeLand x = land(HOLLOW, 60, 8);
        due("about(12, 0)", x.about(12, 0), 59);
        due("about(12, 1)", x.about(12, 1), 60);
        x.rule(0, 71);
        due("about(12, 1)", x.about(12, 1), 71);
        due("about(0, 1), SEA at the rim", x.about(0, 1), 71);
        x.rule(0, 255);
        due("about(0, 1)", x.about(0, 1), 255);
    }

    private static void levelOfTheRim() {
        CHECKS.of("at the rim, no SEA: its LEVEL is its HEIGHT");
        MadeLand x = land(BOWL, 25, 8);
        due("about(22, 1), 25 of 25", x.about(22, 1), 25);
        due("about(22, 2)", x.about(22, 2), -6);
        due("about(0, 1)", x.about(0, 1), 50);
        x.rule(0, 26);
        due("about(22, 1), SEA now", x.about(22, 1), 26);
        due("about(22, 2)", x.about(22, 2), -6);
    }

    private static void rimOfTheLeastLand() {
        CHECKS.of("fewer at the rim: n 4 has 12 places there");
        MadeLand x = Checks.flatLand(4, 100);
        CHECKS.dueRow("taken", row(x, 5), 0, 1, 2, 3, 4, 12, 13, 5, 6, 14, 15, 7, 8, 9, 10, 11);
        CHECKS.dueRow("down", row(x, 2), -6, -6, -6, -6, -6, 1, 2, -6, -6, 8, 11, -6, -6, -6, -6, -6);
        CHECKS.dueRow("flow", row(x, 3), 1, 2, 2, 1, 1, 1, 1, 1, 2, 1, 1, 2, 1, 1, 1, 1);
        CHECKS.dueRow("outlets", row(x, 4), 0, 1, 2, 3, 4, 1, 2, 7, 8, 8, 11, 11, 12, 13, 14, 15);
    }

    private static void outletsFirstByNumbers() {
        CHECKS.of("first all OUTLETS are TAKEN, by numbers");
        MadeLand x = Checks.flatLand(4, 100);
        x.change(10, -50);
        CHECKS.dueRow("taken, with SEA at 10", row(x, 5), 0, 1, 2, 3, 4, 13, 14, 5, 6, 15, 7, 8, 9, 10, 11, 12);
        x.change(3, -90);
        due("about(3, 5), SEA at the rim is not before others", x.about(3, 5), 3);
        due("about(0, 5)", x.about(0, 5), 0);
        x.rule(0, 101);
        for (int place = 0; place < 16; place++) {
            due("about(" + place + ", 5), all is SEA", x.about(place, 5), place);
        }
    }

    private static void takenFromZeroEachOnce() {
        CHECKS.of("as how manieth it was TAKEN (from 0)");
        for (int seed = 0; seed < 5; seed++) {
            MadeLand x = new MadeLand();
            x.seed(seed);
            x.size(20);
            int[] times = new int[400];
            for (int turn : row(x, 5)) {
                due("a number of 400", turn >= 0 && turn < 400 ? 1 : 0, 1);
                times[Math.floorMod(turn, 400)]++;
            }
            for (int time : times) {
                due("each number once", time, 1);
            }
        }
    }

    private static void waterIsHeightIfGreater() {
        CHECKS.of("WATER the least LEVEL, or its HEIGHT, if that is greater");
        MadeLand x = land(new int[][] {
            {50, 50, 50, 50},
            {50, 51, 50, 50},
            {50, 49, 90, 50},
            {50, 50, 50, 50}}, 0, 8);
        due("about(5, 1), greater by 1", x.about(5, 1), 51);
        due("about(6, 1), the same", x.about(6, 1), 50);
        due("about(9, 1), less by 1", x.about(9, 1), 50);
        due("about(10, 1)", x.about(10, 1), 90);
        due("is(5)", x.is(5), 8);
        due("is(6)", x.is(6), 8);
        due("is(9)", x.is(9), 2);
    }

    private static MadeLand slopes() {
        return land(new int[][] {
            {50, 50, 50, 50, 50},
            {50, 90, 80, 80, 50},
            {50, 70, 60, 95, 50},
            {50, 70, 85, 60, 50},
            {50, 50, 50, 50, 50}}, 0, 200);
    }

    private static void leastWaterFirst() {
        CHECKS.of("the one with the least WATER is TAKEN");
        MadeLand x = slopes();
        int[] turns = row(x, 5);
        int[] order = {18, 11, 12, 16, 7, 8, 17, 6, 13};
        for (int i = 0; i < order.length; i++) {
            due("about(" + order[i] + ", 5)", turns[order[i]], 16 + i);
        }
        CHECKS.dueRow("levels", row(x, 1),
                50, 50, 50, 50, 50, 50, 90, 80, 80, 50, 50, 70, 70, 95, 50, 50, 70, 85, 60, 50, 50, 50, 50, 50, 50);
        CHECKS.dueRow("down", row(x, 2),
                -6, -6, -6, -6, -6, -6, 1, 2, 3, -6, -6, 10, 11, 14, -6, -6, 15, 22, 19, -6, -6, -6, -6, -6, -6);
    }

    private static void ofSeveralTheLeastNumber() {
        CHECKS.of("of several the least number is TAKEN");
        MadeLand x = Checks.flatLand(100);
        int[] turns = row(x, 5);
        int[] order = {6, 7, 8, 11, 12, 13, 16, 17, 18};
        for (int i = 0; i < order.length; i++) {
            due("about(" + order[i] + ", 5)", turns[order[i]], 16 + i);
        }
        MadeLand y = slopes();
        due("about(12, 5), of the WATER 70, though 16 had it before", y.about(12, 5), 18);
        due("about(16, 5)", y.about(16, 5), 19);
    }

    private static void downOfTheLeastLevel() {
        CHECKS.of("DOWN: of those BESIDE it with that least LEVEL");
        MadeLand x = land(new int[][] {
            {50, 50, 50, 50},
            {49, 60, 60, 50},
            {50, 60, 60, 49},
            {50, 50, 48, 50}}, 0, 200);
        due("about(5, 2), 4 is lower than 1", x.about(5, 2), 4);
        due("about(6, 2), 2 is lower than 5", x.about(6, 2), 2);
        due("about(9, 2), of 8 and 13 at 50", x.about(9, 2), 8);
        due("about(10, 2), 14 is lower than 11", x.about(10, 2), 14);
    }

    private static void downTheFirstTaken() {
        CHECKS.of("DOWN: the first TAKEN one, not the one of the least number");
        MadeLand x = land(BOWL, 0, 8);
        due("about(6, 1)", x.about(6, 1), 30);
        due("about(12, 1)", x.about(12, 1), 30);
        due("6 is TAKEN before 11", x.about(6, 5) < x.about(11, 5) ? 1 : 0, 1);
        due("12 is TAKEN before 6", x.about(12, 5) < x.about(6, 5) ? 1 : 0, 1);
        due("about(11, 2), not 6", x.about(11, 2), 12);
        MadeLand y = Checks.flatLand(100);
        due("about(6, 2), of 1 and 5", y.about(6, 2), 1);
        due("about(13, 2), 14 was TAKEN before 8", y.about(13, 2), 14);
        due("about(18, 2), of 19 and 23", y.about(18, 2), 19);
    }

    private static void lakeOnlyAboveHeight() {
        CHECKS.of("LAKE, if its LEVEL is above its HEIGHT");
        MadeLand x = land(HOLLOW, 0, 200);
        due("is(12)", x.is(12), 2);
        due("is(6), 65 below 70", x.is(6), 2);
        x.change(12, 10);
        due("about(12, 1), 69", x.about(12, 1), 70);
        due("is(12), 69", x.is(12), 2);
        x.change(12, 1);
        due("about(12, 1), 70", x.about(12, 1), 70);
        due("is(12), 70", x.is(12), 8);
        due("lake(12)", x.lake(12), 0);
        due("lake(6)", x.lake(6), 8);
    }

    private static void seaIsNoLake() {
        CHECKS.of("LAKE, if it is no SEA");
        MadeLand x = land(HOLLOW, 59, 200);
        due("is(12), 59 of 59", x.is(12), 2);
        x.rule(0, 60);
        due("is(12), 59 of 60", x.is(12), 1);
        due("about(12, 1), above its HEIGHT", x.about(12, 1), 60);
        due("lakes(), the ring runs down to the sea", x.lakes(), 0);
        due("lake(12)", x.lake(12), 0);
        due("about(6, 2)", x.about(6, 2), 7);
        due("about(7, 2)", x.about(7, 2), 12);
        due("about(12, 3)", x.about(12, 3), 9);
        due("many(1)", x.many(1), 1);
        due("many(8)", x.many(8), 24);
    }

    private static void noLakeAtTheRim() {
        CHECKS.of("those at the rim are OUTLETS, no lakes");
        MadeLand x = land(new int[][] {
            {90, 90, 90, 90},
            {10, 90, 90, 90},
            {90, 90, 90, 90},
            {90, 90, 90, 90}}, 0, 200);
        due("is(4)", x.is(4), 8);
        due("about(4, 1)", x.about(4, 1), 10);
        due("lake(4)", x.lake(4), 0);
        due("lakes()", x.lakes(), 0);
    }

    private static void flowOfItself() {
        CHECKS.of("FLOW: itself");
        MadeLand x = land(BOWL, 255, 8);
        for (int place = 0; place < 25; place++) {
            due("about(" + place + ", 3), all is SEA", x.about(place, 3), 1);
        }
    }

    private static void flowsOfAllTogether() {
        CHECKS.of("FLOW: itself, and FLOWS of all whose DOWN it is");
        MadeLand x = land(BOWL, 0, 8);
        CHECKS.dueRow("flows", row(x, 3),
                1, 1, 1, 1, 1, 1, 1, 3, 1, 1, 1, 1, 6, 1, 1, 1, 1, 9, 1, 1, 1, 1, 10, 1, 1);
        MadeLand y = new MadeLand();
        y.seed(185);
        y.size(16);
        int[] down = row(y, 2);
        int sum = 0;
        for (int place = 0; place < 256; place += 5) {
            int flow = 1;
            for (int other : new int[] {place - 16, place - 1, place + 1, place + 16}) {
                flow += other >= 0 && other < 256 && down[other] == place ? y.about(other, 3) : 0;
            }
            due("about(" + place + ", 3)", y.about(place, 3), flow);
            sum += flow;
        }
        due("there are flows", sum > 60 ? 1 : 0, 1);
    }

    private static void riverAtStream() {
        CHECKS.of("RIVER, if FLOW is STREAM or more");
        MadeLand x = land(BOWL, 0, 9);
        due("is(17), 9 of 9", x.is(17), 4);
        due("is(22), 10 of 9", x.is(22), 4);
        x.rule(1, 10);
        due("is(17), 9 of 10", x.is(17), 8);
        due("is(22), 10 of 10", x.is(22), 4);
        x.rule(1, 11);
        due("is(22), 10 of 11", x.is(22), 8);
    }

    private static void riverAtLeastStream() {
        CHECKS.of("STREAM 2");
        MadeLand x = Checks.flatLand(4, 100);
        due("rule(1, 2)", x.rule(1, 2), 8);
        due("is(1), a FLOW of 2", x.is(1), 4);
        due("is(5), a FLOW of 1", x.is(5), 8);
        due("many(4)", x.many(4), 4);
        x.rule(1, 3);
        due("many(4), 3", x.many(4), 0);
    }

    /** This land has flows of 199, 200 and 201, one after the other. */
    private static void riverAtMostStream() {
        CHECKS.of("STREAM 200");
        MadeLand x = new MadeLand();
        x.seed(185);
        x.size(24);
        x.rule(0, 0);
        x.rule(1, 200);
        due("about(362, 3)", x.about(362, 3), 199);
        due("about(361, 3)", x.about(361, 3), 200);
        due("about(360, 3)", x.about(360, 3), 201);
        due("is(362)", x.is(362), 8);
        due("is(361)", x.is(361), 4);
        due("is(360)", x.is(360), 4);
        x.rule(1, 199);
        due("is(362), STREAM 199", x.is(362), 4);
    }

    private static void seaAndLakeAreNoRiver() {
        CHECKS.of("RIVER, if it is neither SEA nor LAKE");
        MadeLand x = land(BOWL, 0, 2);
        due("about(12, 3)", x.about(12, 3), 6);
        due("is(12), a lake", x.is(12), 2);
        MadeLand y = land(HOLLOW, 60, 2);
        due("about(12, 3)", y.about(12, 3), 9);
        due("is(12), the sea", y.is(12), 1);
    }

    private static void riverAtTheRim() {
        CHECKS.of("an OUTLET at the rim can be RIVER");
        MadeLand x = land(BOWL, 0, 10);
        due("is(22)", x.is(22), 4);
        x.rule(0, 26);
        due("is(22), SEA", x.is(22), 1);
    }

    private static void outletsThemselves() {
        CHECKS.of("the OUTLET to which its water comes (an OUTLET's itself); DOWN (NONE)");
        MadeLand x = land(HOLLOW, 60, 8);
        due("about(12, 4), SEA", x.about(12, 4), 12);
        due("about(12, 2), SEA", x.about(12, 2), -6);
        due("about(0, 4), the rim", x.about(0, 4), 0);
        due("about(0, 2), the rim", x.about(0, 2), -6);
        due("about(24, 4), the rim", x.about(24, 4), 24);
        due("about(24, 2), the rim", x.about(24, 2), -6);
        due("about(6, 4), by 7", x.about(6, 4), 12);
        due("about(18, 4)", x.about(18, 4), 12);
    }

    private static void aboutWhats() {
        CHECKS.of("about: OUTSIDE");
        MadeLand x = land(BOWL, 0, 8);
        int[] wrong = {-1, 7, MIN, MAX};
        for (int what : wrong) {
            due("about(0, " + what + ")", x.about(0, what), -2);
            due("about(24, " + what + ")", x.about(24, what), -2);
        }
        int[] of17 = {30, 30, 22, 9, 22, 16, -6};
        int[] of16 = {50, 50, 17, 1, 22, 23, 459};
        for (int what = 0; what <= 6; what++) {
            due("about(17, " + what + ")", x.about(17, what), of17[what]);
            due("about(16, " + what + ")", x.about(16, what), of16[what]);
        }
    }

    private static void aboutRefusedInOrder() {
        CHECKS.of("about: UNKNOWN first");
        MadeLand x = land(BOWL, 0, 8);
        int[] wrong = {-1, 25, MIN, MAX};
        for (int place : wrong) {
            due("about(" + place + ", 0)", x.about(place, 0), -1);
            due("about(" + place + ", 6)", x.about(place, 6), -1);
            due("about(" + place + ", 7)", x.about(place, 7), -1);
            due("about(" + place + ", -1)", x.about(place, -1), -1);
        }
    }

    private static void isOfNoPlace() {
        CHECKS.of("is: UNKNOWN");
        MadeLand x = land(BOWL, 0, 8);
        int[] wrong = {-1, 25, 143, MIN, MAX};
        for (int place : wrong) {
            due("is(" + place + ")", x.is(place), -1);
        }
        due("is(24)", x.is(24), 8);
        due("is(0)", x.is(0), 8);
    }

    private static void manyWhats() {
        CHECKS.of("many: 1, 2, 4, 8, 16 or 32, else OUTSIDE");
        MadeLand x = new MadeLand();
        x.seed(7);
        x.towns(3);
        x.rule(0, 120);
        int[] many = {15, 3, 6, 120, 3, 22};
        for (int i = 0; i < 6; i++) {
            due("many(" + (1 << i) + ")", x.many(1 << i), many[i]);
        }
        int[] wrong = {0, -1, 3, 5, 6, 7, 9, 10, 12, 15, 17, 24, 31, 33, 48, 63, 64, 128, MIN, MAX};
        for (int what : wrong) {
            due("many(" + what + ")", x.many(what), -2);
        }
    }

    private static void manyAddUp() {
        CHECKS.of("DRY are those that are none of these");
        for (int seed = 0; seed < 12; seed++) {
            MadeLand x = new MadeLand();
            x.seed(seed);
            x.size(4 + seed);
            due("together", x.many(1) + x.many(2) + x.many(4) + x.many(8), (4 + seed) * (4 + seed));
        }
    }

    private static void noLakes() {
        CHECKS.of("lakes: none");
        due("lakes(), a plain", Checks.flatLand(100).lakes(), 0);
        due("lakes(), a hill", slopes().lakes() - slopes().many(2), 0);
        MadeLand x = land(BOWL, 255, 8);
        due("lakes(), all is SEA", x.lakes(), 0);
        due("many(2)", x.many(2), 0);
    }

    private static void lakeOfOnePlace() {
        CHECKS.of("a lake of one PLACE");
        MadeLand x = slopes();
        due("lakes()", x.lakes(), 1);
        due("lake(12)", x.lake(12), 1);
        due("lake(11), its spill", x.lake(11), 0);
        due("lake(0)", x.lake(0), 0);
        due("many(2)", x.many(2), 1);
    }

    private static void lakeOfTheLeastLand() {
        CHECKS.of("a lake of all that is not at the rim");
        MadeLand x = Checks.flatLand(4, 100);
        x.change(5, -1);
        due("lake(5)", x.lake(5), 1);
        x.change(6, -1);
        x.change(9, -1);
        x.change(10, -1);
        due("lakes()", x.lakes(), 1);
        due("lake(5)", x.lake(5), 4);
        due("lake(10)", x.lake(10), 4);
        due("lake(15)", x.lake(15), 0);
        x.undo();
        due("lake(10), undone", x.lake(10), 0);
        due("lake(5), undone", x.lake(5), 3);
    }

    private static void lakeRoundAnIsland() {
        CHECKS.of("a lake hangs together round an island");
        MadeLand x = land(MOAT, 0, 200);
        due("lakes()", x.lakes(), 1);
        due("lake(6)", x.lake(6), 8);
        due("lake(18)", x.lake(18), 8);
        due("lake(12)", x.lake(12), 0);
        due("is(12)", x.is(12), 8);
        x.change(7, 60);
        x.change(17, 60);
        due("lakes(), two dams", x.lakes(), 2);
        due("lake(6)", x.lake(6), 3);
        due("lake(8)", x.lake(8), 3);
        x.undo();
        due("lakes(), one dam", x.lakes(), 1);
        due("lake(17)", x.lake(17), 7);
    }

    private static void lakesAtTheirCorners() {
        CHECKS.of("PLACES at their corners are not BESIDE one another");
        MadeLand x = Checks.flatLand(4, 100);
        x.change(5, -10);
        x.change(10, -10);
        due("lakes()", x.lakes(), 2);
        due("lake(5)", x.lake(5), 1);
        due("lake(10)", x.lake(10), 1);
        due("about(5, 1)", x.about(5, 1), x.about(10, 1));
        x.change(6, -1);
        due("lakes(), a strait", x.lakes(), 1);
        due("lake(10)", x.lake(10), 3);
    }

    private static void lakesOfTwoLevels() {
        CHECKS.of("lakes of two LEVELS");
        MadeLand x = land(new int[][] {
            {50, 50, 90, 60, 60},
            {50, 10, 90, 10, 60},
            {50, 10, 90, 10, 60},
            {50, 10, 90, 10, 60},
            {50, 50, 90, 60, 60}}, 0, 200);
        due("lakes()", x.lakes(), 2);
        due("about(11, 1)", x.about(11, 1), 50);
        due("about(13, 1)", x.about(13, 1), 60);
        due("lake(11)", x.lake(11), 3);
        due("lake(13)", x.lake(13), 3);
        x.change(12, -40);
        due("about(13, 1), over the gap at 50", x.about(13, 1), 50);
        due("lakes(), the gap is as high as the LEVEL", x.lakes(), 2);
        x.change(12, -1);
        due("lakes(), the gap is below it", x.lakes(), 1);
        due("lake(13)", x.lake(13), 7);
    }

    private static void lakesOfOneLevelApart() {
        CHECKS.of("one LEVEL alone makes no one lake");
        MadeLand x = land(new int[][] {
            {50, 50, 50, 50, 50},
            {50, 10, 90, 10, 50},
            {50, 10, 90, 10, 50},
            {50, 10, 90, 10, 50},
            {50, 50, 50, 50, 50}}, 0, 200);
        due("lakes()", x.lakes(), 2);
        due("about(11, 1)", x.about(11, 1), 50);
        due("about(13, 1)", x.about(13, 1), 50);
        due("lake(11)", x.lake(11), 3);
        due("lake(13)", x.lake(13), 3);
    }

    private static void lakeOfNoPlace() {
        CHECKS.of("lake: UNKNOWN");
        MadeLand x = land(BOWL, 0, 8);
        int[] wrong = {-1, 25, MIN, MAX};
        for (int place : wrong) {
            due("lake(" + place + ")", x.lake(place), -1);
        }
        due("lake(24), it is none", x.lake(24), 0);
    }
}
