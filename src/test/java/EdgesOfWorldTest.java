/** "1 the world" and promises 1 to 8: each sentence that names an edge has a test of its own. */
public final class EdgesOfWorldTest {
    private static final int MIN = Integer.MIN_VALUE, MAX = Integer.MAX_VALUE;
    private static final Checks CHECKS = new Checks();

    public static void main(String[] args) {
        newObject();
        objectsApart();
        lastCall();
        pointsFromZeroOn();
        farthestPoints();
        intsWrap();
        quotientsAreCut();
        partsMadeAlone();
        seedAnswersWhichItWas();
        leastAndMostSize();
        sizeAnswersWhichItWas();
        placesOfEverySize();
        windowFromZeroOn();
        farthestWindow();
        windowOneNumberWrong();
        leastAndMostChange();
        noChangeOfZero();
        changeOfNoPlace();
        changeOfAPlaceThatWas();
        changesFull();
        changesRefusedInOrder();
        heightUpTo400();
        heightFrom0();
        heightOfAllTogether();
        heightsBesideAChange();
        changesBehindTheWindow();
        changesLast();
        changedOfNone();
        changedFirstAndLast();
        changedWhats();
        changedRefusedInOrder();
        changedTellsThePoint();
        undoOfNone();
        undoToNone();
        undoOfTheLatest();
        undoBehindTheWindow();
        undoOfThirty();
        CHECKS.end();
    }

    private static void due(String call, long got, long want) {
        CHECKS.due(call, got, want);
    }

    private static void newObject() {
        CHECKS.of("a new object: all as told at first");
        int[] first = {12, 0, 0, 80, 8, 4, 20, 0, 0, 0, 0};
        for (int what = 0; what < first.length; what++) {
            due("told(" + what + ")", new MadeLand().told(what), first[what]);
        }
        MadeLand same = new MadeLand();
        same.seed(0);
        same.size(12);
        same.window(0, 0);
        same.rule(0, 80);
        same.rule(1, 8);
        same.rule(2, 4);
        same.rule(3, 20);
        same.towns(0);
        for (int place = 0; place < 144; place++) {
            due("is(" + place + ")", new MadeLand().is(place), same.is(place));
        }
    }

    private static void objectsApart() {
        CHECKS.of("an object has what is its own alone");
        MadeLand x = new MadeLand();
        MadeLand y = new MadeLand();
        x.size(4);
        y.size(4);
        x.seed(3);
        x.window(5, 6);
        x.change(1, 7);
        x.rule(0, 1);
        x.towns(2);
        MadeLand fresh = new MadeLand();
        fresh.size(4);
        CHECKS.same("one that was there beside it", y, fresh);
    }

    private static void lastCall() {
        CHECKS.of("at most 512 calls");
        MadeLand x = new MadeLand();
        for (int call = 1; call < 511; call++) {
            due("seed, call " + call, x.seed(call), call - 1);
        }
        due("change(0, 9), call 511", x.change(0, 9), 1);
        due("about(0, 0), call 512", x.about(0, 0), LandByTheBook.ground(510, 0, 0) + 9);
    }

    private static void pointsFromZeroOn() {
        CHECKS.of("points x, y from 0 on");
        MadeLand x = new MadeLand();
        due("ground(0, 0)", x.ground(0, 0), 81);
        due("ground(-1, 0)", x.ground(-1, 0), -2);
        due("ground(0, -1)", x.ground(0, -1), -2);
        due("ground(-1, -1)", x.ground(-1, -1), -2);
        due("ground(MIN, 0)", x.ground(MIN, 0), -2);
        due("ground(0, MIN)", x.ground(0, MIN), -2);
    }

    private static void farthestPoints() {
        CHECKS.of("0 to 200000 both");
        MadeLand x = new MadeLand();
        due("ground(200000, 0)", x.ground(200000, 0), 133);
        due("ground(0, 200000)", x.ground(0, 200000), 110);
        due("ground(199999, 200000)", x.ground(199999, 200000), 68);
        due("ground(200000, 200000)", x.ground(200000, 200000), 46);
        due("ground(200001, 0)", x.ground(200001, 0), -2);
        due("ground(0, 200001)", x.ground(0, 200001), -2);
        due("ground(200001, 200001)", x.ground(200001, 200001), -2);
        due("ground(MAX, 0)", x.ground(MAX, 0), -2);
        due("ground(0, MAX)", x.ground(0, MAX), -2);
        due("ground(-1, 200001)", x.ground(-1, 200001), -2);
    }

    /** The grounds are reckoned with whole numbers of any length, and what is left by 2 to the 32nd. */
    private static void intsWrap() {
        CHECKS.of("ints wrap");
        int[][] points = {{0, 0}, {8, 8}, {7, 7}, {9, 3}, {200000, 0}, {0, 200000}, {199999, 200000}, {100023, 100023}};
        int[][] grounds = {
            {0, 81, 78, 88, 94, 133, 110, 68, 117},
            {1, 108, 130, 143, 171, 120, 138, 124, 89},
            {-1, 74, 218, 192, 120, 87, 146, 150, 125},
            {MAX, 162, 146, 141, 148, 41, 189, 126, 95},
            {MIN, 138, 64, 68, 120, 178, 116, 92, 160}};
        for (int[] row : grounds) {
            MadeLand x = new MadeLand();
            x.seed(row[0]);
            for (int i = 0; i < points.length; i++) {
                due("ground of point " + i + ", seed " + row[0], x.ground(points[i][0], points[i][1]), row[i + 1]);
            }
        }
    }

    private static void quotientsAreCut() {
        CHECKS.of("quotients are cut");
        MadeLand x = new MadeLand();
        due("ground(0, 0): 4 times 0, 2 times 222, 128 are 572, by 7", x.ground(0, 0), 81);
        due("ground(8, 8): 4 times 72, 2 times 56, 149 are 549, by 7", x.ground(8, 8), 78);
        due("ground(0, 4), 6 are left", x.ground(0, 4), 131);
        due("ground(0, 1), each layer is cut: 100 and more, if it were not", x.ground(0, 1), 99);
        due("ground(0, 10), each layer is cut", x.ground(0, 10), 146);
    }

    private static void partsMadeAlone() {
        CHECKS.of("any part made alone and alike");
        for (int n = 4; n <= 24; n += 5) {
            MadeLand x = new MadeLand();
            x.seed(31);
            x.size(n);
            for (int px = 100 - n; px < 100; px += 3) {
                x.window(px + 1, 77);
                due("the point 100, 78 in a window of " + n + " from " + px, x.about(n + 99 - px, 0),
                        LandByTheBook.ground(31, 100, 78));
            }
        }
    }

    private static void seedAnswersWhichItWas() {
        CHECKS.of("SEED: which it was");
        MadeLand x = new MadeLand();
        int[] seeds = {0, 5, 5, -5, MAX, MIN, -1, 0};
        int before = 0;
        for (int seed : seeds) {
            due("seed(" + seed + ")", x.seed(seed), before);
            due("told(10)", x.told(10), seed);
            before = seed;
        }
        due("ground(0, 0), the first seed again", x.ground(0, 0), 81);
    }

    private static void leastAndMostSize() {
        CHECKS.of("n 4 to 24");
        MadeLand x = new MadeLand();
        int[] wrong = {3, 25, 0, -1, -4, MIN, MAX};
        for (int n : wrong) {
            due("size(" + n + ")", x.size(n), -2);
            due("told(0)", x.told(0), 12);
        }
        due("size(4)", x.size(4), 12);
        due("told(0)", x.told(0), 4);
        due("size(24)", x.size(24), 4);
        due("told(0)", x.told(0), 24);
    }

    private static void sizeAnswersWhichItWas() {
        CHECKS.of("the window's size: which it was");
        MadeLand x = new MadeLand();
        due("size(5)", x.size(5), 12);
        due("size(5)", x.size(5), 5);
        due("size(25)", x.size(25), -2);
        due("size(12)", x.size(12), 5);
    }

    private static void placesOfEverySize() {
        CHECKS.of("PLACE n y + x is that x, y behind it");
        for (int n = 4; n <= 24; n++) {
            MadeLand x = new MadeLand();
            x.size(n);
            x.window(3, 50);
            due("the first, n " + n, x.about(0, 0), LandByTheBook.ground(0, 3, 50));
            due("the end of a row, n " + n, x.about(n - 1, 0), LandByTheBook.ground(0, n + 2, 50));
            due("the next row, n " + n, x.about(n, 0), LandByTheBook.ground(0, 3, 51));
            due("the last, n " + n, x.about(n * n - 1, 0), LandByTheBook.ground(0, n + 2, n + 49));
            due("beyond, n " + n, x.about(n * n, 0), -1);
            due("is, beyond, n " + n, x.is(n * n), -1);
            due("lake, beyond, n " + n, x.lake(n * n), -1);
            due("roads, beyond, n " + n, x.roads(n * n), -1);
            due("change, beyond, n " + n, x.change(n * n, 1), -1);
            due("the last is something, n " + n, x.is(n * n - 1) > 0 ? 1 : 0, 1);
            due("no roads at the last, n " + n, x.roads(n * n - 1), 0);
            due("all of them, n " + n, x.many(1) + x.many(2) + x.many(4) + x.many(8), n * n);
        }
    }

    private static void windowFromZeroOn() {
        CHECKS.of("a window from a point on, 0, 0 at first");
        MadeLand x = new MadeLand();
        x.window(9, 9);
        due("window(0, 0)", x.window(0, 0), 1);
        due("window(-1, 0)", x.window(-1, 0), -2);
        due("window(0, -1)", x.window(0, -1), -2);
        due("window(MIN, MIN)", x.window(MIN, MIN), -2);
        due("about(0, 0)", x.about(0, 0), 81);
    }

    private static void farthestWindow() {
        CHECKS.of("a window up to 100000");
        MadeLand x = new MadeLand();
        x.size(24);
        due("window(100000, 100000)", x.window(100000, 100000), 1);
        due("about(575, 0), the point 100023, 100023", x.about(575, 0), 117);
        due("window(100001, 100000)", x.window(100001, 100000), -2);
        due("window(100000, 100001)", x.window(100000, 100001), -2);
        due("window(200000, 200000)", x.window(200000, 200000), -2);
        due("window(MAX, MAX)", x.window(MAX, MAX), -2);
        due("about(575, 0), as before", x.about(575, 0), 117);
    }

    private static void windowOneNumberWrong() {
        CHECKS.of("a refused window changes neither number");
        MadeLand x = new MadeLand();
        x.window(7, 8);
        due("window(9, -1)", x.window(9, -1), -2);
        due("told(1)", x.told(1), 7);
        due("told(2)", x.told(2), 8);
        due("window(100001, 9)", x.window(100001, 9), -2);
        due("told(1)", x.told(1), 7);
        due("told(2)", x.told(2), 8);
    }

    private static void leastAndMostChange() {
        CHECKS.of("-400 to 400");
        MadeLand x = new MadeLand();
        int[] wrong = {401, -401, MAX, MIN};
        for (int by : wrong) {
            due("change(5, " + by + ")", x.change(5, by), -2);
        }
        int[] right = {400, -400, 1, -1};
        for (int i = 0; i < right.length; i++) {
            due("change(5, " + right[i] + ")", x.change(5, right[i]), i + 1);
            due("changed(" + i + ", 2)", x.changed(i, 2), right[i]);
        }
    }

    private static void noChangeOfZero() {
        CHECKS.of("not 0");
        MadeLand x = new MadeLand();
        due("change(5, 0)", x.change(5, 0), -2);
        due("told(9)", x.told(9), 0);
        due("changed(0, 0)", x.changed(0, 0), -1001);
    }

    private static void changeOfNoPlace() {
        CHECKS.of("UNKNOWN: there is no such PLACE");
        MadeLand x = new MadeLand();
        int[] wrong = {-1, 144, MIN, MAX};
        for (int place : wrong) {
            due("change(" + place + ", 1)", x.change(place, 1), -1);
        }
        due("change(143, 1)", x.change(143, 1), 1);
        due("change(0, 1)", x.change(0, 1), 2);
    }

    private static void changeOfAPlaceThatWas() {
        CHECKS.of("a PLACE of the window as it is now");
        MadeLand x = new MadeLand();
        x.size(5);
        due("change(24, 1)", x.change(24, 1), 1);
        x.size(4);
        due("change(24, 1)", x.change(24, 1), -1);
        due("change(16, 1)", x.change(16, 1), -1);
        due("change(15, 1)", x.change(15, 1), 2);
        due("changed(1, 0)", x.changed(1, 0), 3);
        due("changed(1, 1)", x.changed(1, 1), 3);
    }

    private static MadeLand full() {
        MadeLand x = new MadeLand();
        x.size(6);
        for (int i = 1; i <= 30; i++) {
            due("change(" + (35 - i) + ", 1)", x.change(35 - i, i), i);
        }
        return x;
    }

    private static void changesFull() {
        CHECKS.of("30 at most");
        MadeLand x = full();
        due("change(0, 1)", x.change(0, 1), -4);
        due("change(34, -1)", x.change(34, -1), -4);
        due("told(9)", x.told(9), 30);
        due("changed(29, 2)", x.changed(29, 2), 30);
        due("about(0, 0)", x.about(0, 0), 81);
        x.window(1000, 1000);
        due("change(0, 1), in another window", x.change(0, 1), -4);
        due("undo()", x.undo(), 29);
        due("change(0, 1)", x.change(0, 1), 30);
        due("change(0, 1)", x.change(0, 1), -4);
    }

    private static void changesRefusedInOrder() {
        CHECKS.of("the first of these that fits");
        MadeLand x = full();
        due("change(36, 0): no such place", x.change(36, 0), -1);
        due("change(36, 1): no such place", x.change(36, 1), -1);
        due("change(-1, 401): no such place", x.change(-1, 401), -1);
        due("change(35, 0): a number not as told", x.change(35, 0), -2);
        due("change(35, -401): a number not as told", x.change(35, -401), -2);
        due("change(35, 1): full", x.change(35, 1), -4);
        due("told(9)", x.told(9), 30);
        MadeLand y = new MadeLand();
        due("change(144, 0), not full", y.change(144, 0), -1);
    }

    private static void heightUpTo400() {
        CHECKS.of("HEIGHT to 400");
        MadeLand x = new MadeLand();
        x.change(0, 318);
        due("81 and 318", x.about(0, 0), 399);
        x.change(0, 1);
        due("and 1", x.about(0, 0), 400);
        x.change(0, 1);
        due("and 1", x.about(0, 0), 400);
        x.change(0, 400);
        due("and 400", x.about(0, 0), 400);
    }

    private static void heightFrom0() {
        CHECKS.of("HEIGHT from 0");
        MadeLand x = new MadeLand();
        x.change(0, -80);
        due("81 less 80", x.about(0, 0), 1);
        x.change(0, -1);
        due("less 1", x.about(0, 0), 0);
        x.change(0, -1);
        due("less 1", x.about(0, 0), 0);
        x.change(0, -400);
        due("less 400", x.about(0, 0), 0);
    }

    private static void heightOfAllTogether() {
        CHECKS.of("GROUND and all CHANGES together, then from 0 to 400");
        MadeLand x = new MadeLand();
        x.change(0, 400);
        x.change(0, 20);
        x.change(0, -101);
        due("81 and 400 and 20 less 101", x.about(0, 0), 400);
        x.change(0, -1);
        due("less 1", x.about(0, 0), 399);
        MadeLand y = new MadeLand();
        y.change(0, -400);
        y.change(0, 319);
        due("81 less 400 and 319", y.about(0, 0), 0);
        y.change(0, 1);
        due("and 1", y.about(0, 0), 1);
    }

    private static void heightsBesideAChange() {
        CHECKS.of("CHANGES are each of a point");
        MadeLand x = new MadeLand();
        x.size(5);
        x.change(12, 50);
        for (int place = 0; place < 25; place++) {
            int ground = LandByTheBook.ground(0, place % 5, place / 5);
            due("about(" + place + ", 0)", x.about(place, 0), place == 12 ? ground + 50 : ground);
        }
    }

    /** One change each just behind the four rims of the window from 10, 20 on, and at its corners. */
    private static void changesBehindTheWindow() {
        CHECKS.of("CHANGES of points that are not in the window");
        MadeLand x = new MadeLand();
        x.size(4);
        int[][] points = {{9, 21}, {14, 21}, {11, 19}, {11, 24}, {9, 19}, {14, 24}, {14, 19}, {9, 24}};
        for (int[] point : points) {
            x.window(point[0], point[1]);
            x.change(0, 99);
        }
        x.window(10, 20);
        for (int place = 0; place < 16; place++) {
            due("about(" + place + ", 0)", x.about(place, 0), LandByTheBook.ground(0, 10 + place % 4, 20 + place / 4));
        }
        for (int[] point : points) {
            x.window(point[0], point[1]);
            due("the point itself", x.about(0, 0), LandByTheBook.ground(0, point[0], point[1]) + 99);
        }
        x.size(6);
        x.window(9, 19);
        due("the whole of them: place 35", x.about(35, 0), LandByTheBook.ground(0, 14, 24) + 99);
        due("the whole of them: place 12", x.about(12, 0), LandByTheBook.ground(0, 9, 21) + 99);
    }

    private static void changesLast() {
        CHECKS.of("changes by hand that last whatever is made anew");
        MadeLand x = new MadeLand();
        x.change(13, 60);
        x.seed(44);
        due("after seed", x.about(13, 0), LandByTheBook.ground(44, 1, 1) + 60);
        x.size(7);
        due("after size", x.about(8, 0), LandByTheBook.ground(44, 1, 1) + 60);
        x.window(1, 1);
        due("after window", x.about(0, 0), LandByTheBook.ground(44, 1, 1) + 60);
        x.window(500, 500);
        x.window(0, 1);
        due("after two windows", x.about(1, 0), LandByTheBook.ground(44, 1, 1) + 60);
        x.rule(0, 200);
        x.towns(4);
        due("after rules", x.about(1, 0), LandByTheBook.ground(44, 1, 1) + 60);
        due("told(9)", x.told(9), 1);
        due("ground(1, 1), without it", x.ground(1, 1), LandByTheBook.ground(44, 1, 1));
    }

    private static void changedOfNone() {
        CHECKS.of("changed: UNKNOWN -1001");
        MadeLand x = new MadeLand();
        int[] wrong = {0, -1, 1, 29, 30, MIN, MAX};
        for (int i : wrong) {
            due("changed(" + i + ", 0)", x.changed(i, 0), -1001);
        }
    }

    private static void changedFirstAndLast() {
        CHECKS.of("changed: the first and the last of 30");
        MadeLand x = full();
        due("changed(-1, 2)", x.changed(-1, 2), -1001);
        due("changed(0, 2)", x.changed(0, 2), 1);
        due("changed(0, 0)", x.changed(0, 0), 4);
        due("changed(0, 1)", x.changed(0, 1), 5);
        due("changed(29, 2)", x.changed(29, 2), 30);
        due("changed(29, 0)", x.changed(29, 0), 5);
        due("changed(29, 1)", x.changed(29, 1), 0);
        due("changed(30, 2)", x.changed(30, 2), -1001);
        x.undo();
        due("changed(29, 2), taken back", x.changed(29, 2), -1001);
        due("changed(28, 2)", x.changed(28, 2), 29);
    }

    private static void changedWhats() {
        CHECKS.of("changed: 0 x, 1 y, 2 by how much; OUTSIDE -1002");
        MadeLand x = new MadeLand();
        x.change(14, -9);
        due("changed(0, 0)", x.changed(0, 0), 2);
        due("changed(0, 1)", x.changed(0, 1), 1);
        due("changed(0, 2)", x.changed(0, 2), -9);
        int[] wrong = {-1, 3, MIN, MAX};
        for (int what : wrong) {
            due("changed(0, " + what + ")", x.changed(0, what), -1002);
        }
    }

    private static void changedRefusedInOrder() {
        CHECKS.of("changed: UNKNOWN first");
        MadeLand x = new MadeLand();
        due("changed(0, 3), there is none", x.changed(0, 3), -1001);
        x.change(0, 1);
        due("changed(1, -1)", x.changed(1, -1), -1001);
        due("changed(-1, 3)", x.changed(-1, 3), -1001);
    }

    private static void changedTellsThePoint() {
        CHECKS.of("changed: its point, not its place");
        MadeLand x = new MadeLand();
        x.size(24);
        x.window(100000, 99999);
        x.change(575, 400);
        x.size(4);
        x.window(0, 0);
        x.seed(8);
        due("changed(0, 0)", x.changed(0, 0), 100023);
        due("changed(0, 1)", x.changed(0, 1), 100022);
        due("changed(0, 2)", x.changed(0, 2), 400);
    }

    private static void undoOfNone() {
        CHECKS.of("undo: UNKNOWN, there is none");
        MadeLand x = new MadeLand();
        due("undo()", x.undo(), -1);
        x.change(0, 0);
        due("undo(), after a change that was refused", x.undo(), -1);
        due("told(9)", x.told(9), 0);
        due("change(0, 1)", x.change(0, 1), 1);
    }

    private static void undoToNone() {
        CHECKS.of("undo: how many are left");
        MadeLand x = new MadeLand();
        x.change(0, 1);
        x.change(1, 1);
        due("undo()", x.undo(), 1);
        due("undo(), none is left", x.undo(), 0);
        due("undo()", x.undo(), -1);
        due("undo()", x.undo(), -1);
        due("about(0, 0)", x.about(0, 0), 81);
    }

    private static void undoOfTheLatest() {
        CHECKS.of("undo: the latest CHANGE is taken back");
        MadeLand x = new MadeLand();
        x.change(0, 10);
        x.change(1, 20);
        x.change(0, 40);
        x.undo();
        due("about(0, 0)", x.about(0, 0), 91);
        due("about(1, 0)", x.about(1, 0), 109);
        x.undo();
        due("about(0, 0)", x.about(0, 0), 91);
        due("about(1, 0)", x.about(1, 0), 89);
        due("changed(0, 2)", x.changed(0, 2), 10);
    }

    private static void undoBehindTheWindow() {
        CHECKS.of("undo: the latest one, wherever its point is");
        MadeLand x = new MadeLand();
        x.change(0, 10);
        x.window(900, 900);
        x.change(0, 20);
        x.window(0, 0);
        due("undo()", x.undo(), 1);
        due("about(0, 0)", x.about(0, 0), 91);
        x.window(900, 900);
        due("about(0, 0), there", x.about(0, 0), LandByTheBook.ground(0, 900, 900));
        due("undo()", x.undo(), 0);
        x.window(0, 0);
        due("about(0, 0)", x.about(0, 0), 81);
    }

    private static void undoOfThirty() {
        CHECKS.of("undo: from 30 to none");
        MadeLand x = full();
        for (int left = 29; left >= 0; left--) {
            due("undo()", x.undo(), left);
            due("told(9)", x.told(9), left);
        }
        due("undo()", x.undo(), -1);
    }
}
