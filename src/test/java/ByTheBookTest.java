import java.util.Random;

/** Long runs of calls, right and wrong ones, answered as the document's words say it (LandByTheBook). */
public final class ByTheBookTest {
    private static final int RUNS = 400, CALLS = 512;
    private static final int[] ODD = {Integer.MIN_VALUE, -401, -7, -2, -1, 0, 1, 2, 13, 25, 144, 201, 256, 401, 576,
        100001, 200001, Integer.MAX_VALUE};

    private final Random random;
    private final MadeLand land = new MadeLand();
    private final LandByTheBook book = new LandByTheBook();
    private final Checks checks;
    private final int mostSize;

    private ByTheBookTest(Checks checks, int run) {
        this.checks = checks;
        random = new Random(run);
        mostSize = run % 10 == 0 ? 24 : run % 2 == 0 ? 12 : 6;
        checks.of("run " + run);
    }

    public static void main(String[] args) {
        Checks checks = new Checks();
        for (int run = 0; run < RUNS && checks.wrong() == 0; run++) {
            ByTheBookTest test = new ByTheBookTest(checks, run);
            test.begin();
            for (int i = 0; i < CALLS - 8; i++) {
                test.call();
            }
        }
        checks.end();
    }

    private void begin() {
        due("size", land.size(mostSize), book.size(mostSize));
        int seed = random.nextInt();
        due("seed", land.seed(seed), book.seed(seed));
        int sea = random.nextInt(4) * 40;
        due("rule 0", land.rule(0, sea), book.rule(0, sea));
        int stream = 2 + random.nextInt(12);
        due("rule 1", land.rule(1, stream), book.rule(1, stream));
        int gap = 1 + random.nextInt(6);
        due("rule 2", land.rule(2, gap), book.rule(2, gap));
        int wanted = random.nextInt(7);
        due("towns", land.towns(wanted), book.towns(wanted));
    }

    private void due(String call, long got, long want) {
        checks.due(call, got, want);
    }

    /** Mostly from least to most, at times something odd. */
    private int pick(int least, int most) {
        int kind = random.nextInt(24);
        if (kind == 0) {
            return ODD[random.nextInt(ODD.length)];
        }
        return kind == 1 ? least - 1 : kind == 2 ? most + 1 : kind == 3 ? most : least + random.nextInt(most - least + 1);
    }

    private int place() {
        int n = book.told(0);
        return pick(0, n * n - 1);
    }

    private void call() {
        int kind = random.nextInt(40);
        if (kind < 8) {
            change(kind);
        } else {
            ask(kind % 13);
        }
    }

    private void change(int kind) {
        int a = kind == 6 ? 0 : pick(0, 100);
        switch (kind) {
            case 0: due("seed(" + a + ")", land.seed(a), book.seed(a)); break;
            case 1:
                a = pick(4, mostSize);
                due("size(" + a + ")", land.size(a), book.size(a));
                break;
            case 2: {
                int reach = random.nextInt(5) == 0 ? 100000 : 20;
                int x = pick(0, reach), y = pick(0, reach);
                due("window(" + x + ", " + y + ")", land.window(x, y), book.window(x, y));
                break;
            }
            case 3: case 4: {
                int p = place(), by = pick(-400, 400);
                due("change(" + p + ", " + by + ")", land.change(p, by), book.change(p, by));
                break;
            }
            case 5: due("undo()", land.undo(), book.undo()); break;
            case 6: {
                int what = pick(0, 3);
                int[] most = {255, 30, 12, 100};
                int v = pick(0, what >= 0 && what < 4 ? most[what] : 100);
                due("rule(" + what + ", " + v + ")", land.rule(what, v), book.rule(what, v));
                break;
            }
            default:
                a = pick(0, 6);
                due("towns(" + a + ")", land.towns(a), book.towns(a));
                break;
        }
    }

    private void ask(int kind) {
        int p = place(), a = pick(0, 5), b = pick(0, 5);
        switch (kind) {
            case 0: {
                int x = pick(0, 200000), y = pick(0, 200000);
                due("ground(" + x + ", " + y + ")", land.ground(x, y), book.ground(x, y));
                break;
            }
            case 1: {
                int i = pick(0, 4), what = pick(0, 2);
                due("changed(" + i + ", " + what + ")", land.changed(i, what), book.changed(i, what));
                break;
            }
            case 2: {
                int what = pick(0, 6);
                due("about(" + p + ", " + what + ")", land.about(p, what), book.about(p, what));
                break;
            }
            case 3: due("is(" + p + ")", land.is(p), book.is(p)); break;
            case 4: {
                int what = 1 << random.nextInt(6);
                what = random.nextInt(8) == 0 ? pick(0, 64) : what;
                due("many(" + what + ")", land.many(what), book.many(what));
                break;
            }
            case 5: due("lakes()", land.lakes(), book.lakes()); break;
            case 6: due("lake(" + p + ")", land.lake(p), book.lake(p)); break;
            case 7: due("town(" + a + ")", land.town(a), book.town(a)); break;
            case 8: due("cost(" + a + ", " + b + ")", land.cost(a, b), book.cost(a, b)); break;
            case 9: {
                int i = pick(0, 2 * mostSize);
                due("way(" + a + ", " + b + ", " + i + ")", land.way(a, b, i), book.way(a, b, i));
                break;
            }
            case 10: {
                int what = random.nextBoolean() ? pick(0, 2) : pick(10, 21);
                due("net(" + what + ")", land.net(what), book.net(what));
                break;
            }
            case 11: due("roads(" + p + ")", land.roads(p), book.roads(p)); break;
            default: {
                int what = pick(0, 10);
                due("told(" + what + ")", land.told(what), book.told(what));
                break;
            }
        }
    }
}
