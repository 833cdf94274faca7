/** Whatever is changed, all is made anew: each call first on a new object, and after each change of a land that is made. */
public final class AnewTest {
    private static final int SEEDS = 6, CHANGES = 12, ASKED = 44;
    private static final Checks CHECKS = new Checks();

    private final MadeLand land = new MadeLand();
    private final LandByTheBook book = new LandByTheBook();

    public static void main(String[] args) {
        firstCalls();
        for (int seed = 0; seed < SEEDS; seed++) {
            for (int change = 0; change < CHANGES; change++) {
                firstCallsAfter(seed, change);
            }
            undoneIsAsBefore(seed);
        }
        CHECKS.end();
    }

    private static void firstCalls() {
        CHECKS.of("the first call of a new object");
        for (int asked = 0; asked < ASKED; asked++) {
            new AnewTest().ask(asked);
        }
    }

    private static void firstCallsAfter(int seed, int change) {
        for (int asked = 0; asked < ASKED; asked++) {
            AnewTest test = new AnewTest();
            CHECKS.of("seed " + seed);
            test.begin(seed);
            for (int before = 0; before < ASKED; before++) {
                test.ask(before);
            }
            CHECKS.of("seed " + seed + ", first after change " + change);
            test.change(change);
            test.ask(asked);
        }
    }

    private static void undoneIsAsBefore(int seed) {
        CHECKS.of("a change and its undoing, seed " + seed);
        MadeLand changed = smallLand(seed);
        changed.change(6, 90);
        changed.is(0);
        changed.undo();
        CHECKS.same("undo()", changed, smallLand(seed));
    }

    private static MadeLand smallLand(int seed) {
        AnewTest test = new AnewTest();
        test.begin(seed);
        test.land.size(5);
        return test.land;
    }

    private void due(String call, long got, long want) {
        CHECKS.due(call, got, want);
    }

    private void begin(int seed) {
        due("seed", land.seed(seed), book.seed(seed));
        due("size(9)", land.size(9), book.size(9));
        due("window(5, 6)", land.window(5, 6), book.window(5, 6));
        due("rule(0, 70)", land.rule(0, 70), book.rule(0, 70));
        due("rule(1, 4)", land.rule(1, 4), book.rule(1, 4));
        due("rule(2, 3)", land.rule(2, 3), book.rule(2, 3));
        due("change(13, 80)", land.change(13, 80), book.change(13, 80));
        due("change(31, -120)", land.change(31, -120), book.change(31, -120));
        due("towns(5)", land.towns(5), book.towns(5));
    }

    private void change(int change) {
        switch (change) {
            case 0: due("seed(1001)", land.seed(1001), book.seed(1001)); break;
            case 1: due("size(6)", land.size(6), book.size(6)); break;
            case 2: due("size(10)", land.size(10), book.size(10)); break;
            case 3: due("window(7, 3)", land.window(7, 3), book.window(7, 3)); break;
            case 4: due("window(5, 7)", land.window(5, 7), book.window(5, 7)); break;
            case 5: due("change(22, -200)", land.change(22, -200), book.change(22, -200)); break;
            case 6: due("undo()", land.undo(), book.undo()); break;
            case 7: due("rule(0, 120)", land.rule(0, 120), book.rule(0, 120)); break;
            case 8: due("rule(1, 2)", land.rule(1, 2), book.rule(1, 2)); break;
            case 9: due("rule(2, 6)", land.rule(2, 6), book.rule(2, 6)); break;
            case 10: due("rule(3, 3)", land.rule(3, 3), book.rule(3, 3)); break;
            default: due("towns(2)", land.towns(2), book.towns(2)); break;
        }
    }

    private void ask(int asked) {
        if (asked < 11) {
            due("told(" + asked + ")", land.told(asked), book.told(asked));
        } else if (asked < 18) {
            int what = asked - 11;
            due("about(20, " + what + ")", land.about(20, what), book.about(20, what));
        } else if (asked < 24) {
            int what = 1 << asked - 18;
            due("many(" + what + ")", land.many(what), book.many(what));
        } else {
            askMore(asked);
        }
    }

    private void askMore(int asked) {
        switch (asked) {
            case 24: due("ground(7, 8)", land.ground(7, 8), book.ground(7, 8)); break;
            case 25: due("changed(0, 0)", land.changed(0, 0), book.changed(0, 0)); break;
            case 26: due("changed(1, 1)", land.changed(1, 1), book.changed(1, 1)); break;
            case 27: due("changed(2, 2)", land.changed(2, 2), book.changed(2, 2)); break;
            case 28: due("is(21)", land.is(21), book.is(21)); break;
            case 29: due("lakes()", land.lakes(), book.lakes()); break;
            case 30: due("lake(31)", land.lake(31), book.lake(31)); break;
            case 31: due("town(0)", land.town(0), book.town(0)); break;
            case 32: due("town(2)", land.town(2), book.town(2)); break;
            case 33: due("cost(0, 1)", land.cost(0, 1), book.cost(0, 1)); break;
            case 34: due("cost(2, 1)", land.cost(2, 1), book.cost(2, 1)); break;
            case 35: due("way(0, 1, 2)", land.way(0, 1, 2), book.way(0, 1, 2)); break;
            case 36: due("way(1, 2, 1)", land.way(1, 2, 1), book.way(1, 2, 1)); break;
            case 37: due("net(0)", land.net(0), book.net(0)); break;
            case 38: due("net(1)", land.net(1), book.net(1)); break;
            case 39: due("net(2)", land.net(2), book.net(2)); break;
            case 40: due("net(12)", land.net(12), book.net(12)); break;
            case 41: due("net(13)", land.net(13), book.net(13)); break;
            case 42: due("roads(20)", land.roads(20), book.roads(20)); break;
            default: due("about(80, 0)", land.about(80, 0), book.about(80, 0)); break;
        }
    }
}
