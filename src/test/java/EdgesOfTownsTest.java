/** "3 towns and roads" and promises 15 to 21: each sentence that names an edge has a test of its own. */
public final class EdgesOfTownsTest {
    private static final int MIN = Integer.MIN_VALUE, MAX = Integer.MAX_VALUE;
    private static final Checks CHECKS = new Checks();

    public static void main(String[] args) {
        worthAtTheHeightsEnds();
        worthOfNoDryPlace();
        worthOfRiversUpTo60();
        worthOfTheGreatestFlow();
        worthOfRiversAlone();
        worthNotOverTheRim();
        townsFrom0To6();
        townsAsLongAsThereAreSuch();
        townsOfNone();
        townOfTheGreatestWorth();
        townOfTheLeastNumber();
        townsAtTheGap();
        townsAtTheGapOverRowEnds();
        gapFromAllTowns();
        gapOnlyForTheNextOnes();
        townOfNoNumber();
        costOfOneAndTheSame();
        costOfOneStep();
        costUpAndDown();
        costNotThroughSea();
        costNotThroughLakes();
        costNotOverCorners();
        costNotOverRowEnds();
        costOfBridges();
        costOfNoTown();
        wayFromTheFirstOn();
        wayBeyond();
        wayOfOneAndTheSame();
        wayThatIsNone();
        wayOfLeastNumbers();
        wayOfThirtyPlaces();
        wayOfNoTown();
        waysCostTheCost();
        netOfNoTown();
        netOfOneTown();
        netBeginsWithTownZero();
        netFromTheNearestOne();
        netOfLeastFirstThenSecond();
        netOfFiveRoads();
        netWhats();
        roadsAtTheirEnds();
        roadsOverOnePlace();
        roadsOfNoPlace();
        toldWhats();
        toldTownsAndWanted();
        CHECKS.end();
    }

    private static void due(String call, long got, long want) {
        CHECKS.due(call, got, want);
    }

    /** Islands in a row of a land of 24 lines, from a column on, each place with its height. */
    private static MadeLand strip(int y, int fromX, int... heights) {
        int[][] places = new int[heights.length][];
        for (int i = 0; i < heights.length; i++) {
            places[i] = new int[] {24 * y + fromX + i, heights[i]};
        }
        return Checks.islands(24, places);
    }

    /** So many places of dry land, each alone in the sea; the first is the lowest. */
    private static MadeLand rocks(int count) {
        int[][] places = new int[count][];
        for (int i = 0; i < count; i++) {
            places[i] = new int[] {24 * 3 + 3 * i + 1, 300 + i};
        }
        return Checks.islands(24, places);
    }

    /** All is level and dry: with GAP 4 towns at 0, 4, 12, 20 and 24. */
    private static MadeLand plain() {
        MadeLand x = Checks.flatLand(100);
        x.towns(6);
        return x;
    }

    private static void dueWay(MadeLand x, int a, int b, int... want) {
        int[] got = new int[want.length];
        for (int i = 0; i < want.length; i++) {
            got[i] = x.way(a, b, i);
        }
        CHECKS.dueRow("way(" + a + ", " + b + ", ..)", got, want);
        due("way(" + a + ", " + b + ", beyond)", x.way(a, b, want.length), -6);
    }

    private static void dueNet(MadeLand x, int members, int together, int... ends) {
        due("net(0)", x.net(0), members);
        due("net(1)", x.net(1), together);
        due("net(2)", x.net(2), ends.length / 2);
        for (int i = 0; i < ends.length; i++) {
            due("net(" + (10 + i) + ")", x.net(10 + i), ends[i]);
        }
        due("net(beyond)", x.net(10 + ends.length), -6);
        due("net(beyond)", x.net(11 + ends.length), -6);
    }

    // ---- worth

    private static void worthAtTheHeightsEnds() {
        CHECKS.of("WORTH: 500 less HEIGHT");
        MadeLand low = Checks.flatLand(0);
        low.rule(0, 0);
        due("about(12, 6), 0 high", low.about(12, 6), 500);
        due("about(0, 6), 0 high", low.about(0, 6), 500);
        MadeLand high = Checks.flatLand(400);
        due("about(12, 6), 400 high", high.about(12, 6), 100);
        due("about(24, 6), 400 high", high.about(24, 6), 100);
    }

    private static void worthOfNoDryPlace() {
        CHECKS.of("WORTH (NONE: it is not DRY)");
        MadeLand x = Checks.land(new int[][] {
            {50, 50, 50, 50, 50},
            {50, 20, 10, 20, 50},
            {50, 20, 10, 20, 50},
            {50, 50, 30, 50, 50},
            {50, 50, 25, 50, 50}});
        x.rule(0, 0);
        due("about(12, 6), LAKE", x.about(12, 6), -6);
        due("about(17, 6), RIVER", x.about(17, 6), -6);
        due("about(0, 6), DRY", x.about(0, 6), 450);
        x.rule(0, 11);
        due("about(12, 6), SEA", x.about(12, 6), -6);
        due("about(17, 6), DRY now", x.about(17, 6), 470);
    }

    /** Natural lands, whose rivers at these places have FLOWS of 59, 60 and 61. */
    private static void worthOfRiversUpTo60() {
        CHECKS.of("the greatest FLOW of RIVERS BESIDE it, 60 at most");
        int[][] lands = {{4, 456, 480, 59, 89, 470}, {23, 264, 240, 60, 104, 456}, {23, 419, 420, 61, 133, 427}};
        for (int[] land : lands) {
            MadeLand x = new MadeLand();
            x.seed(land[0]);
            x.size(24);
            x.rule(0, 0);
            x.rule(1, 2);
            due("is(" + land[2] + ")", x.is(land[2]), 4);
            due("about(" + land[2] + ", 3)", x.about(land[2], 3), land[3]);
            due("about(" + land[1] + ", 0)", x.about(land[1], 0), land[4]);
            due("about(" + land[1] + ", 6)", x.about(land[1], 6), land[5]);
        }
    }

    /** The river comes from 12 by 11 and 6 to 1; place 7 lies beside 12 (a FLOW of 3) and 6 (7). */
    private static void worthOfTheGreatestFlow() {
        CHECKS.of("the greatest FLOW, not the first one, nor all together");
        MadeLand x = Checks.land(new int[][] {
            {110, 90, 110, 110, 110},
            {110, 91, 110, 110, 110},
            {110, 92, 93, 110, 110},
            {110, 110, 110, 110, 110},
            {110, 110, 110, 110, 110}});
        x.rule(1, 2);
        due("about(12, 3)", x.about(12, 3), 3);
        due("about(11, 3)", x.about(11, 3), 5);
        due("about(6, 3)", x.about(6, 3), 7);
        due("about(1, 3)", x.about(1, 3), 8);
        due("about(7, 6), beside 6 and 12", x.about(7, 6), 397);
        due("about(16, 6), beside 11", x.about(16, 6), 395);
        due("about(0, 6), beside 1", x.about(0, 6), 398);
        due("about(2, 6), beside 1", x.about(2, 6), 398);
        due("about(17, 6), beside 12", x.about(17, 6), 393);
        x.rule(1, 4);
        due("about(17, 6), 12 is no RIVER more", x.about(17, 6), 390);
    }

    private static void worthOfRiversAlone() {
        CHECKS.of("FLOWS of RIVERS, not of others");
        MadeLand x = Checks.land(new int[][] {
            {70, 70, 70, 70, 70},
            {70, 65, 65, 65, 70},
            {70, 65, 59, 65, 70},
            {70, 65, 65, 65, 70},
            {70, 70, 70, 70, 70}});
        x.rule(0, 60);
        x.rule(1, 4);
        due("about(12, 3), SEA", x.about(12, 3), 9);
        due("about(7, 3), DRY", x.about(7, 3), 3);
        due("about(7, 6), beside the SEA", x.about(7, 6), 435);
        due("about(6, 6), beside a DRY one", x.about(6, 6), 435);
        x.rule(0, 59);
        due("is(7), a LAKE", x.is(7), 2);
        due("about(2, 6), beside the LAKE", x.about(2, 6), 430);
        due("about(2, 6), with all that can be RIVERS", x.rule(1, 2) == 4 ? x.about(7, 6) : 0, -6);
    }

    /** 9 ends its row as a river; 10 begins the next one. */
    private static void worthNotOverTheRim() {
        CHECKS.of("BESIDE: fewer at the rim");
        MadeLand x = Checks.land(new int[][] {
            {110, 110, 110, 110, 110},
            {110, 110, 110, 100, 90},
            {110, 110, 110, 110, 110},
            {110, 110, 110, 110, 110},
            {110, 110, 110, 110, 110}});
        x.rule(1, 3);
        due("about(9, 3)", x.about(9, 3), 5);
        due("is(9)", x.is(9), 4);
        due("about(10, 6), not beside 9", x.about(10, 6), 390);
        due("about(14, 6), beside 9", x.about(14, 6), 395);
        due("about(4, 6), beside 9", x.about(4, 6), 395);
        due("about(20, 6), the lowest row", x.about(20, 6), 390);
        due("about(0, 6), the highest row", x.about(0, 6), 390);
    }

    // ---- towns

    private static void townsFrom0To6() {
        CHECKS.of("TOWNS WANTED: 0 to 6; 0 at first");
        MadeLand x = Checks.flatLand(100);
        due("told(8)", x.told(8), 0);
        x.rule(2, 1);
        int[] wrong = {-1, 7, MIN, MAX};
        for (int n : wrong) {
            due("towns(" + n + ")", x.towns(n), -2);
            due("told(8)", x.told(8), 0);
            due("told(7)", x.told(7), 0);
        }
        for (int n = 0; n <= 6; n++) {
            due("towns(" + n + ")", x.towns(n), n);
            due("many(16)", x.many(16), n);
        }
        due("towns(7)", x.towns(7), -2);
        due("told(7)", x.told(7), 6);
        due("towns(0)", x.towns(0), 0);
        due("many(16)", x.many(16), 0);
    }

    private static void townsAsLongAsThereAreSuch() {
        CHECKS.of("as long as there are such");
        for (int count = 1; count <= 7; count++) {
            MadeLand x = rocks(count);
            x.rule(2, 1);
            due("towns(6) on " + count + " rocks", x.towns(6), Math.min(count, 6));
            due("told(8)", x.told(8), 6);
            due("town(" + (count - 1) + ")", x.town(count - 1), count <= 6 ? 24 * 3 + 3 * count - 2 : -1);
            due("town(" + count + ")", x.town(count), -1);
        }
    }

    private static void townsOfNone() {
        CHECKS.of("no DRY PLACE, no TOWN");
        MadeLand x = Checks.flatLand(100);
        x.rule(0, 255);
        due("towns(6)", x.towns(6), 0);
        due("town(0)", x.town(0), -1);
        due("told(8)", x.told(8), 6);
        due("net(0)", x.net(0), 0);
        due("cost(0, 0)", x.cost(0, 0), -1);
        due("way(0, 0, 0)", x.way(0, 0, 0), -1);
        x.rule(0, 0);
        due("told(7), dry again", x.told(7), 5);
    }

    private static void townOfTheGreatestWorth() {
        CHECKS.of("TOWN 0 is the DRY PLACE with the greatest WORTH, each next one likewise");
        MadeLand x = Checks.flatLand(100);
        x.rule(1, 200);
        x.change(24, -3);
        x.change(2, -2);
        x.change(10, -1);
        due("towns(3)", x.towns(3), 3);
        due("town(0)", x.town(0), 24);
        due("town(1)", x.town(1), 2);
        due("town(2)", x.town(2), 10);
    }

    private static void townOfTheLeastNumber() {
        CHECKS.of("of several the least number");
        MadeLand x = Checks.flatLand(100);
        x.rule(1, 200);
        x.change(23, -1);
        x.change(9, -1);
        x.change(15, -1);
        due("towns(4)", x.towns(4), 4);
        due("town(0)", x.town(0), 9);
        due("town(1)", x.town(1), 15);
        due("town(2)", x.town(2), 23);
        due("town(3)", x.town(3), 1);
    }

    private static void townsAtTheGap() {
        for (int gap = 1; gap <= 12; gap++) {
            CHECKS.of("in rows and columns together GAP or more, GAP " + gap);
            for (int across = -gap; across <= gap; across++) {
                int along = gap - Math.abs(across);
                due("just so far: " + across + ", " + along, towns(gap, across, along), 2);
                due("just so far: " + across + ", " + -along, towns(gap, across, -along), 2);
                if (along > 1 || along == 1 && across != 0) {
                    due("nearer by one: " + across + ", " + (along - 1), towns(gap, across, along - 1), 1);
                    due("nearer by one: " + across + ", " + (1 - along), towns(gap, across, 1 - along), 1);
                }
            }
        }
    }

    private static int towns(int gap, int across, int along) {
        int firstX = across < 0 ? 20 : 3;
        int firstY = along < 0 ? 20 : 3;
        MadeLand x = Checks.islands(24, new int[] {24 * firstY + firstX, 300},
                new int[] {24 * (firstY + along) + firstX + across, 301});
        x.rule(2, gap);
        return x.towns(2);
    }

    private static void townsAtTheGapOverRowEnds() {
        CHECKS.of("rows and columns together: a row's end is far from the next row's first");
        MadeLand x = Checks.islands(5, new int[] {4, 300}, new int[] {5, 301});
        x.rule(2, 5);
        due("towns(2), GAP 5", x.towns(2), 2);
        x.rule(2, 6);
        due("towns(2), GAP 6", x.towns(2), 1);
    }

    private static void gapFromAllTowns() {
        CHECKS.of("GAP or more from all TOWNS");
        MadeLand x = Checks.islands(24, new int[] {125, 300}, new int[] {135, 301}, new int[] {126, 302},
                new int[] {132, 303}, new int[] {130, 304});
        due("towns(6)", x.towns(6), 3);
        due("town(0)", x.town(0), 125);
        due("town(1)", x.town(1), 135);
        due("town(2), 126 is near to the first, 132 to the second", x.town(2), 130);
    }

    private static void gapOnlyForTheNextOnes() {
        CHECKS.of("TOWN 0 is wherever it is worth most, whatever GAP is");
        MadeLand x = Checks.flatLand(4, 100);
        x.rule(2, 12);
        due("towns(6), no two places are so far", x.towns(6), 1);
        due("town(0)", x.town(0), 0);
        x.rule(2, 6);
        due("told(7), from corner to corner", x.told(7), 2);
        due("town(1)", x.town(1), 15);
        x.rule(2, 7);
        due("told(7)", x.told(7), 1);
    }

    private static void townOfNoNumber() {
        CHECKS.of("town: UNKNOWN");
        MadeLand x = new MadeLand();
        due("town(0), there are none", x.town(0), -1);
        MadeLand y = rocks(6);
        y.rule(2, 1);
        y.towns(6);
        int[] wrong = {-1, 6, 7, MIN, MAX};
        for (int t : wrong) {
            due("town(" + t + ")", y.town(t), -1);
        }
        due("town(0)", y.town(0), 73);
        due("town(5)", y.town(5), 88);
        y.towns(5);
        due("town(5), of 5", y.town(5), -1);
    }

    // ---- costs

    private static void costOfOneAndTheSame() {
        CHECKS.of("cost: 0 of one and the same");
        MadeLand x = rocks(6);
        x.rule(2, 1);
        x.towns(6);
        for (int t = 0; t < 6; t++) {
            due("cost(" + t + ", " + t + ")", x.cost(t, t), 0);
        }
    }

    private static void costOfOneStep() {
        CHECKS.of("a STEP costs 10 and the size of the difference of HEIGHTS");
        int[][] steps = {{300, 300, 10}, {300, 301, 11}, {345, 300, 55}, {255, 400, 155}, {400, 255, 155}};
        for (int[] step : steps) {
            MadeLand x = strip(9, 9, step[0], step[1]);
            x.rule(2, 1);
            x.towns(2);
            due("cost(0, 1), " + step[0] + " and " + step[1], x.cost(0, 1), step[2]);
            due("cost(1, 0), " + step[0] + " and " + step[1], x.cost(1, 0), step[2]);
        }
    }

    private static void costUpAndDown() {
        CHECKS.of("the size of the difference, up and down alike");
        MadeLand x = strip(9, 9, 300, 330, 310, 390, 305);
        x.rule(2, 4);
        x.towns(2);
        due("town(0)", x.town(0), 225);
        due("town(1)", x.town(1), 229);
        due("cost(0, 1)", x.cost(0, 1), 40 + 30 + 20 + 80 + 85);
        due("cost(1, 0)", x.cost(1, 0), 40 + 30 + 20 + 80 + 85);
    }

    private static void costNotThroughSea() {
        CHECKS.of("a STEP between PLACES that are not SEA; NONE: there is no way");
        MadeLand x = strip(9, 9, 300, 300, 254, 300, 300);
        x.rule(2, 4);
        due("towns(2)", x.towns(2), 2);
        due("cost(0, 1)", x.cost(0, 1), -6);
        due("cost(1, 0)", x.cost(1, 0), -6);
        x.change(24 * 9 + 11, 1);
        x.rule(2, 2);
        due("towns(3)", x.towns(3), 3);
        due("town(0), 255 is no SEA", x.town(0), 24 * 9 + 11);
        due("cost(1, 2), over it", x.cost(1, 2), 40 + 90);
        due("way(1, 2, 2)", x.way(1, 2, 2), 24 * 9 + 11);
    }

    /** The island in the lake is dry; the lake's level is that of the rim. */
    private static void costNotThroughLakes() {
        CHECKS.of("a STEP between PLACES that are not LAKE");
        MadeLand x = Checks.land(new int[][] {
            {50, 50, 50, 50, 50},
            {50, 10, 10, 10, 50},
            {50, 10, 60, 10, 50},
            {50, 10, 10, 10, 50},
            {50, 50, 50, 50, 50}});
        x.rule(0, 0);
        due("towns(6)", x.towns(6), 5);
        due("town(4)", x.town(4), 12);
        due("cost(0, 4)", x.cost(0, 4), -6);
        due("cost(4, 0)", x.cost(4, 0), -6);
        due("cost(0, 1)", x.cost(0, 1), 40);
        due("net(0)", x.net(0), 4);
        x.change(7, 40);
        due("is(7), filled up", x.is(7) & 15, 8);
        due("cost(0, 4), over 7", x.cost(0, 4), 50);
    }

    private static void costNotOverCorners() {
        CHECKS.of("a STEP between PLACES BESIDE one another: not over corners");
        MadeLand x = Checks.islands(6, new int[] {14, 300}, new int[] {21, 300}, new int[] {9, 300});
        x.rule(2, 2);
        due("towns(3)", x.towns(3), 3);
        due("cost(0, 1)", x.cost(0, 1), -6);
        due("cost(1, 2)", x.cost(1, 2), -6);
        due("cost(2, 0)", x.cost(2, 0), -6);
    }

    private static void costNotOverRowEnds() {
        CHECKS.of("a STEP between PLACES BESIDE one another: not from a row's end to the next row");
        MadeLand x = Checks.islands(5, new int[] {9, 300}, new int[] {10, 301});
        x.rule(2, 1);
        due("towns(2)", x.towns(2), 2);
        due("cost(0, 1)", x.cost(0, 1), -6);
        due("cost(1, 0)", x.cost(1, 0), -6);
        MadeLand y = Checks.islands(5, new int[] {2, 300}, new int[] {22, 301});
        y.rule(2, 1);
        y.towns(2);
        due("cost(0, 1), the first row and the last", y.cost(0, 1), -6);
    }

    /** 28 (dry) drains by 27 and 26, both rivers, to the sea; 25 (dry) lies behind them. */
    private static void costOfBridges() {
        CHECKS.of("and BRIDGE, if one of both is RIVER");
        MadeLand x = Checks.islands(8, new int[] {25, 301}, new int[] {26, 301}, new int[] {27, 302},
                new int[] {28, 303}, new int[] {19, 400}, new int[] {20, 400}, new int[] {29, 400},
                new int[] {35, 400}, new int[] {36, 400});
        x.rule(1, 2);
        x.rule(2, 3);
        x.towns(2);
        due("is(26)", x.is(26) & 15, 4);
        due("is(27)", x.is(27) & 15, 4);
        due("town(0)", x.town(0), 25);
        due("town(1)", x.town(1), 28);
        int[] bridges = {20, 0, 1, 100};
        for (int bridge : bridges) {
            x.rule(3, bridge);
            due("cost(0, 1): on the river, along it, off it; BRIDGE " + bridge, x.cost(0, 1), 32 + 3 * bridge);
            due("cost(1, 0), BRIDGE " + bridge, x.cost(1, 0), 32 + 3 * bridge);
            due("net(1)", x.net(1), 32 + 3 * bridge);
        }
        x.rule(1, 3);
        due("cost(0, 1), 26 alone is RIVER", x.cost(0, 1), 232);
        x.rule(1, 4);
        due("cost(0, 1), no RIVER", x.cost(0, 1), 32);
    }

    private static void costOfNoTown() {
        CHECKS.of("cost: UNKNOWN");
        MadeLand x = rocks(6);
        x.rule(2, 1);
        x.towns(6);
        int[] wrong = {-1, 6, 7, MIN, MAX};
        for (int t : wrong) {
            due("cost(" + t + ", 0)", x.cost(t, 0), -1);
            due("cost(5, " + t + ")", x.cost(5, t), -1);
            due("cost(" + t + ", " + t + ")", x.cost(t, t), -1);
        }
        due("cost(5, 0)", x.cost(5, 0), -6);
        x.towns(5);
        due("cost(5, 5), of 5", x.cost(5, 5), -1);
        due("cost(4, 4)", x.cost(4, 4), 0);
    }

    // ---- ways

    private static void wayFromTheFirstOn() {
        CHECKS.of("PLACE i (0: the first TOWN) of the way");
        MadeLand x = plain();
        due("way(1, 3, 0)", x.way(1, 3, 0), 4);
        due("way(3, 1, 0)", x.way(3, 1, 0), 20);
        due("way(0, 1, 4), the second TOWN", x.way(0, 1, 4), 4);
        due("way(0, 1, -1), before the first", x.way(0, 1, -1), -6);
        due("way(0, 1, MIN)", x.way(0, 1, MIN), -6);
    }

    private static void wayBeyond() {
        CHECKS.of("way: NONE beyond");
        MadeLand x = plain();
        int[] beyond = {5, 6, 24, 25, 26, 575, 576, MAX};
        for (int i : beyond) {
            due("way(0, 1, " + i + ")", x.way(0, 1, i), -6);
        }
        due("way(0, 4, 8)", x.way(0, 4, 8), 24);
        due("way(0, 4, 9)", x.way(0, 4, 9), -6);
    }

    private static void wayOfOneAndTheSame() {
        CHECKS.of("the way from a TOWN to itself");
        MadeLand x = plain();
        int[] towns = {0, 4, 12, 20, 24};
        for (int t = 0; t < 5; t++) {
            due("way(" + t + ", " + t + ", 0)", x.way(t, t, 0), towns[t]);
            due("way(" + t + ", " + t + ", 1)", x.way(t, t, 1), -6);
            due("way(" + t + ", " + t + ", -1)", x.way(t, t, -1), -6);
        }
    }

    private static void wayThatIsNone() {
        CHECKS.of("way: NONE, or there is none");
        MadeLand x = rocks(2);
        x.rule(2, 1);
        x.towns(2);
        int[] all = {-1, 0, 1, 2, 575, MIN, MAX};
        for (int i : all) {
            due("way(0, 1, " + i + ")", x.way(0, 1, i), -6);
            due("way(1, 0, " + i + ")", x.way(1, 0, i), -6);
        }
    }

    private static void wayOfLeastNumbers() {
        CHECKS.of("each time to the PLACE of the least number");
        MadeLand x = plain();
        dueWay(x, 0, 4, 0, 1, 2, 3, 4, 9, 14, 19, 24);
        dueWay(x, 4, 0, 24, 19, 14, 9, 4, 3, 2, 1, 0);
        dueWay(x, 1, 3, 4, 3, 2, 1, 0, 5, 10, 15, 20);
        dueWay(x, 3, 1, 20, 15, 10, 5, 0, 1, 2, 3, 4);
        dueWay(x, 2, 4, 12, 13, 14, 19, 24);
        dueWay(x, 2, 1, 12, 7, 2, 3, 4);
    }

    private static void wayOfThirtyPlaces() {
        CHECKS.of("a way of thirty PLACES");
        int[][] places = new int[30][];
        for (int i = 0; i < 30; i++) {
            int place = i < 24 ? 48 + i : 71 + 24 * (i - 23);
            places[i] = new int[] {place, i == 0 || i == 29 ? 299 : 300};
        }
        MadeLand x = Checks.islands(24, places);
        due("towns(2)", x.towns(2), 2);
        due("cost(0, 1)", x.cost(0, 1), 292);
        for (int i = 0; i < 30; i++) {
            due("way(0, 1, " + i + ")", x.way(0, 1, i), places[i][0]);
            due("way(1, 0, " + i + ")", x.way(1, 0, i), places[29 - i][0]);
            due("roads(" + places[i][0] + ")", x.roads(places[i][0]), 1);
        }
        due("way(0, 1, 30)", x.way(0, 1, 30), -6);
        due("many(32)", x.many(32), 30);
        due("net(1)", x.net(1), 292);
    }

    private static void wayOfNoTown() {
        CHECKS.of("way: UNKNOWN");
        MadeLand x = plain();
        int[] wrong = {-1, 5, 6, MIN, MAX};
        for (int t : wrong) {
            due("way(" + t + ", 0, 0)", x.way(t, 0, 0), -1);
            due("way(0, " + t + ", 0)", x.way(0, t, 0), -1);
            due("way(" + t + ", " + t + ", 0)", x.way(t, t, 0), -1);
            due("way(" + t + ", 0, -1), the town first", x.way(t, 0, -1), -1);
            due("way(0, " + t + ", 99), the town first", x.way(0, t, 99), -1);
        }
    }

    private static void waysCostTheCost() {
        CHECKS.of("the way that THE COST tells of");
        for (int seed = 0; seed < 30; seed++) {
            MadeLand x = new MadeLand();
            x.seed(seed);
            x.rule(1, 3);
            x.towns(2);
            int cost = x.cost(0, 1);
            int together = 0;
            int place = x.way(0, 1, 0);
            for (int i = 1; i < 60 && cost >= 0 && place != x.town(1); i++) {
                int next = x.way(0, 1, i);
                together += 10 + Math.abs(x.about(place, 0) - x.about(next, 0))
                        + ((x.is(place) & 4) + (x.is(next) & 4) > 0 ? 20 : 0);
                place = next;
            }
            due("the steps of the way, seed " + seed, together, Math.max(cost, 0));
        }
    }

    // ---- the net

    private static void netOfNoTown() {
        CHECKS.of("THE NET of no TOWN");
        MadeLand x = Checks.flatLand(100);
        dueNet(x, 0, 0);
        due("many(32)", x.many(32), 0);
        x.towns(3);
        x.towns(0);
        dueNet(x, 0, 0);
        due("many(32)", x.many(32), 0);
        due("roads(0)", x.roads(0), 0);
    }

    private static void netOfOneTown() {
        CHECKS.of("THE NET begins with TOWN 0");
        MadeLand x = Checks.flatLand(100);
        x.towns(1);
        dueNet(x, 1, 0);
        due("roads(0)", x.roads(0), 0);
        due("is(0), no road", x.is(0), 24);
        MadeLand y = rocks(6);
        y.rule(2, 1);
        y.towns(6);
        dueNet(y, 1, 0);
        due("many(32)", y.many(32), 0);
    }

    private static void netBeginsWithTownZero() {
        CHECKS.of("a TOWN in it and one that is not, with a way");
        MadeLand x = Checks.islands(24, new int[] {100, 300}, new int[] {200, 301}, new int[] {201, 302},
                new int[] {202, 303});
        x.rule(2, 1);
        due("towns(4)", x.towns(4), 4);
        due("cost(1, 2)", x.cost(1, 2), 11);
        due("cost(0, 1)", x.cost(0, 1), -6);
        dueNet(x, 1, 0);
        due("roads(200)", x.roads(200), 0);
        due("many(32)", x.many(32), 0);
    }

    /** TOWN 2 lies between 0 and 1. */
    private static void netFromTheNearestOne() {
        CHECKS.of("of all pairs the one with the least COST");
        MadeLand x = strip(9, 2, 299, 302, 302, 302, 302, 301, 302, 302, 302, 302, 300);
        due("towns(3)", x.towns(3), 3);
        due("town(0)", x.town(0), 218);
        due("town(1)", x.town(1), 228);
        due("town(2)", x.town(2), 223);
        due("cost(0, 2)", x.cost(0, 2), 54);
        due("cost(1, 2)", x.cost(1, 2), 53);
        due("cost(0, 1)", x.cost(0, 1), 107);
        dueNet(x, 3, 107, 0, 2, 2, 1);
        due("way(0, 1, 5), through TOWN 2", x.way(0, 1, 5), 223);
        due("roads(223)", x.roads(223), 2);
        due("is(223)", x.is(223), 8 + 16 + 32);
    }

    private static void netOfLeastFirstThenSecond() {
        CHECKS.of("of several the least first TOWN, then the least second one");
        MadeLand x = strip(5, 1, 303, 310, 310, 310, 310, 300, 310, 310, 310, 301, 310, 310, 310, 310, 302);
        due("towns(4)", x.towns(4), 4);
        due("cost(0, 1)", x.cost(0, 1), 59);
        due("cost(0, 3)", x.cost(0, 3), 67);
        due("cost(1, 2)", x.cost(1, 2), 67);
        dueNet(x, 4, 193, 0, 1, 0, 3, 1, 2);
        dueNet(plain(), 5, 160, 0, 1, 0, 2, 0, 3, 1, 4);
    }

    private static void netOfFiveRoads() {
        CHECKS.of("net: the last ROAD of 6 TOWNS");
        MadeLand x = strip(5, 3, 300, 301, 302, 303, 304, 305);
        x.rule(2, 1);
        due("towns(6)", x.towns(6), 6);
        dueNet(x, 6, 55, 0, 1, 1, 2, 2, 3, 3, 4, 4, 5);
        due("net(21)", x.net(21), -6);
        due("net(22)", x.net(22), -6);
        due("net(23)", x.net(23), -6);
    }

    private static void netWhats() {
        CHECKS.of("net: OUTSIDE, and NONE beyond");
        MadeLand x = plain();
        int[] wrong = {-1, 3, 4, 5, 6, 7, 8, 9, MIN};
        for (int what : wrong) {
            due("net(" + what + ")", x.net(what), -2);
        }
        int[] beyond = {18, 19, 20, 21, 22, 100, MAX - 1, MAX};
        for (int what : beyond) {
            due("net(" + what + ")", x.net(what), -6);
        }
        due("net(3), of a new object", new MadeLand().net(3), -2);
        due("net(9), of a new object", new MadeLand().net(9), -2);
        due("net(10), of a new object", new MadeLand().net(10), -6);
    }

    private static void roadsAtTheirEnds() {
        CHECKS.of("how many ROADS go over a PLACE, their ends too");
        MadeLand x = strip(5, 3, 300, 310, 301);
        x.rule(2, 2);
        x.towns(2);
        int[] roads = {0, 1, 1, 1, 0};
        for (int i = 0; i < 5; i++) {
            due("roads(" + (122 + i) + ")", x.roads(122 + i), roads[i]);
            due("is(" + (122 + i) + ") & 32", x.is(122 + i) & 32, 32 * roads[i]);
        }
        due("many(32)", x.many(32), 3);
        due("roads(99), one row higher", x.roads(99), 0);
    }

    private static void roadsOverOnePlace() {
        CHECKS.of("how many ROADS: several over one PLACE");
        MadeLand x = plain();
        int[] roads = {
            3, 2, 2, 1, 2,
            1, 0, 1, 0, 1,
            1, 0, 1, 0, 1,
            1, 0, 0, 0, 1,
            1, 0, 0, 0, 1};
        for (int place = 0; place < 25; place++) {
            due("roads(" + place + ")", x.roads(place), roads[place]);
        }
        due("many(32), each PLACE once", x.many(32), 15);
    }

    private static void roadsOfNoPlace() {
        CHECKS.of("roads: UNKNOWN");
        MadeLand x = plain();
        int[] wrong = {-1, 25, 26, MIN, MAX};
        for (int place : wrong) {
            due("roads(" + place + ")", x.roads(place), -1);
        }
        due("roads(24)", x.roads(24), 1);
        due("roads(0)", x.roads(0), 3);
    }

    // ---- told

    private static void toldWhats() {
        CHECKS.of("told: OUTSIDE");
        MadeLand x = new MadeLand();
        int[] wrong = {-1, 11, 12, MIN, MAX};
        for (int what : wrong) {
            due("told(" + what + ")", x.told(what), -2);
        }
        x.size(24);
        x.window(100000, 99999);
        x.rule(0, 255);
        x.rule(1, 200);
        x.rule(2, 12);
        x.rule(3, 100);
        x.seed(MIN);
        x.change(0, 400);
        x.towns(6);
        int[] want = {24, 100000, 99999, 255, 200, 12, 100, 1, 6, 1, MIN};
        for (int what = 0; what <= 10; what++) {
            due("told(" + what + ")", x.told(what), want[what]);
        }
    }

    private static void toldTownsAndWanted() {
        CHECKS.of("told: 7 TOWNS, 8 WANTED");
        MadeLand x = rocks(2);
        due("told(7)", x.told(7), 0);
        due("told(8)", x.told(8), 0);
        x.rule(2, 1);
        x.towns(3);
        due("told(7), there are but two", x.told(7), 2);
        due("told(8)", x.told(8), 3);
        x.undo();
        due("told(7), there is but one", x.told(7), 1);
        due("told(8)", x.told(8), 3);
        due("towns(-1)", x.towns(-1), -2);
        due("told(8)", x.told(8), 3);
    }
}
