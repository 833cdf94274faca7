/** Promises 1 to 8: the new object, the ground, the window and the changes. */
public final class WorldTest {
    private static final Checks CHECKS = new Checks();

    public static void main(String[] args) {
        newObject();
        seeds();
        grounds();
        sizes();
        windows();
        changes();
        manyChanges();
        changesAsTold();
        undoing();
        CHECKS.end();
    }

    private static void due(String call, long got, long want) {
        CHECKS.due(call, got, want);
    }

    private static void newObject() {
        CHECKS.of("promise 1");
        MadeLand x = new MadeLand();
        int[] first = {12, 0, 0, 80, 8, 4, 20, 0, 0, 0, 0};
        for (int what = 0; what < first.length; what++) {
            due("told(" + what + ")", x.told(what), first[what]);
        }
        due("undo()", x.undo(), -1);
        due("about(143, 0)", x.about(143, 0), x.ground(11, 11));
        due("about(144, 0)", x.about(144, 0), -1);
        due("many(16)", x.many(16), 0);
        due("net(0)", x.net(0), 0);
        MadeLand other = new MadeLand();
        x.seed(9);
        x.towns(3);
        due("told(10) of another object", other.told(10), 0);
        due("told(8) of another object", other.told(8), 0);
    }

    private static void seeds() {
        CHECKS.of("promise 2");
        MadeLand x = new MadeLand();
        int[] seeds = {7, -1, Integer.MAX_VALUE, Integer.MIN_VALUE, 0};
        int before = 0;
        for (int seed : seeds) {
            due("seed(" + seed + ")", x.seed(seed), before);
            due("told(10)", x.told(10), seed);
            due("ground(8, 4)", x.ground(8, 4), LandByTheBook.ground(seed, 8, 4));
            due("about(56, 0)", x.about(56, 0), LandByTheBook.ground(seed, 8, 4));
            before = seed;
        }
    }

    private static void grounds() {
        CHECKS.of("promise 3");
        MadeLand x = new MadeLand();
        due("ground(0, 0)", x.ground(0, 0), 81);
        due("ground(200000, 200000)", x.ground(200000, 200000), 46);
        int[][] outside = {{-1, 0}, {0, -1}, {200001, 0}, {0, 200001}, {Integer.MIN_VALUE, 5}, {5, Integer.MAX_VALUE}};
        for (int[] point : outside) {
            due("ground(" + point[0] + ", " + point[1] + ")", x.ground(point[0], point[1]), -2);
        }
        x.seed(-123456789);
        for (int i = 0; i < 300; i++) {
            int px = i * 661 % 200001;
            int py = i * 977 % 200001;
            due("ground(" + px + ", " + py + ")", x.ground(px, py), LandByTheBook.ground(-123456789, px, py));
        }
        due("seed(0)", x.seed(0), -123456789);
        x.change(0, 100);
        due("ground(0, 0), whatever is changed", x.ground(0, 0), 81);
    }

    private static void sizes() {
        CHECKS.of("promise 4");
        MadeLand x = new MadeLand();
        due("size(3)", x.size(3), -2);
        due("size(25)", x.size(25), -2);
        due("size(-4)", x.size(-4), -2);
        due("size(MAX)", x.size(Integer.MAX_VALUE), -2);
        due("told(0)", x.told(0), 12);
        due("size(4)", x.size(4), 12);
        due("is(15)", x.is(15) > 0 ? 1 : 0, 1);
        due("is(16)", x.is(16), -1);
        due("about(5, 0)", x.about(5, 0), x.ground(1, 1));
        due("size(24)", x.size(24), 4);
        due("about(575, 0)", x.about(575, 0), x.ground(23, 23));
        due("about(576, 0)", x.about(576, 0), -1);
        due("size(24)", x.size(24), 24);
        due("told(0)", x.told(0), 24);
    }

    private static void windows() {
        CHECKS.of("promise 5");
        MadeLand x = new MadeLand();
        int[][] outside = {{-1, 0}, {0, -1}, {100001, 0}, {0, 100001}, {Integer.MAX_VALUE, Integer.MIN_VALUE}};
        for (int[] point : outside) {
            due("window(" + point[0] + ", " + point[1] + ")", x.window(point[0], point[1]), -2);
        }
        due("told(1)", x.told(1), 0);
        due("told(2)", x.told(2), 0);
        due("window(100000, 0)", x.window(100000, 0), 1);
        due("about(13, 0)", x.about(13, 0), x.ground(100001, 1));
        due("window(37, 100000)", x.window(37, 100000), 1);
        due("told(1)", x.told(1), 37);
        due("told(2)", x.told(2), 100000);
        due("about(25, 0)", x.about(25, 0), x.ground(38, 100002));
    }

    private static void changes() {
        CHECKS.of("promise 6");
        MadeLand x = new MadeLand();
        due("change(-1, 5)", x.change(-1, 5), -1);
        due("change(144, 5)", x.change(144, 5), -1);
        due("change(144, 0), the place first", x.change(144, 0), -1);
        due("change(0, 0)", x.change(0, 0), -2);
        due("change(0, 401)", x.change(0, 401), -2);
        due("change(0, -401)", x.change(0, -401), -2);
        due("told(9)", x.told(9), 0);
        due("change(0, 400)", x.change(0, 400), 1);
        due("about(0, 0), 400 at most", x.about(0, 0), 400);
        due("change(0, -400)", x.change(0, -400), 2);
        due("about(0, 0), all together", x.about(0, 0), 81);
        due("change(0, -400)", x.change(0, -400), 3);
        due("about(0, 0), 0 at least", x.about(0, 0), 0);
        due("change(0, 323)", x.change(0, 323), 4);
        due("about(0, 0)", x.about(0, 0), 4);
        due("change(13, 1)", x.change(13, 1), 5);
        due("about(13, 0)", x.about(13, 0), x.ground(1, 1) + 1);
        x.window(1, 1);
        due("about(0, 0), the point's", x.about(0, 0), x.ground(1, 1) + 1);
        due("about(13, 0), another point", x.about(13, 0), x.ground(2, 2));
        x.window(0, 0);
        x.seed(3);
        due("about(13, 0), whatever is made anew", x.about(13, 0), x.ground(1, 1) + 1);
        x.size(20);
        due("about(21, 0)", x.about(21, 0), x.ground(1, 1) + 1);
    }

    private static void manyChanges() {
        CHECKS.of("promise 6, 30 of them");
        MadeLand x = new MadeLand();
        for (int i = 1; i <= 30; i++) {
            due("change " + i, x.change(i, i % 2 == 0 ? i : -i), i);
        }
        due("change(0, 1)", x.change(0, 1), -4);
        due("change(0, 0), the number first", x.change(0, 0), -2);
        due("change(999, 1), the place first", x.change(999, 1), -1);
        due("told(9)", x.told(9), 30);
        due("about(0, 0)", x.about(0, 0), 81);
        due("undo()", x.undo(), 29);
        due("change(0, 1)", x.change(0, 1), 30);
        due("about(0, 0)", x.about(0, 0), 82);
    }

    private static void changesAsTold() {
        CHECKS.of("promise 7");
        MadeLand x = new MadeLand();
        due("changed(0, 0)", x.changed(0, 0), -1001);
        x.window(100, 2000);
        x.size(6);
        x.change(8, -17);
        x.change(35, 400);
        int[][] told = {{102, 2001, -17}, {105, 2005, 400}};
        x.window(0, 0);
        for (int i = 0; i < 2; i++) {
            for (int what = 0; what < 3; what++) {
                due("changed(" + i + ", " + what + ")", x.changed(i, what), told[i][what]);
            }
            due("changed(i, 3)", x.changed(i, 3), -1002);
            due("changed(i, -1)", x.changed(i, -1), -1002);
        }
        due("changed(2, 0)", x.changed(2, 0), -1001);
        due("changed(2, 3), the change first", x.changed(2, 3), -1001);
        due("changed(-1, 0)", x.changed(-1, 0), -1001);
        due("changed(MAX, MIN)", x.changed(Integer.MAX_VALUE, Integer.MIN_VALUE), -1001);
    }

    private static void undoing() {
        CHECKS.of("promise 8");
        MadeLand x = new MadeLand();
        due("undo()", x.undo(), -1);
        x.change(0, 10);
        x.change(0, 100);
        due("about(0, 0)", x.about(0, 0), 191);
        due("undo()", x.undo(), 1);
        due("about(0, 0), the latest is gone", x.about(0, 0), 91);
        due("changed(1, 0)", x.changed(1, 0), -1001);
        due("undo()", x.undo(), 0);
        due("about(0, 0)", x.about(0, 0), 81);
        due("undo()", x.undo(), -1);
        due("told(9)", x.told(9), 0);
        due("change(0, 5)", x.change(0, 5), 1);
        due("changed(0, 2)", x.changed(0, 2), 5);
    }
}
