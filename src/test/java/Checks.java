/** Counts the calls whose answer is not the one that is due, and makes lands by hand. */
final class Checks {
    private int checked = 0;
    private int wrong = 0;
    private String about = "";

    /** What the checks that follow are about. */
    void of(String text) {
        about = text;
    }

    void due(String call, long got, long want) {
        checked++;
        if (got != want) {
            wrong++;
            System.out.println(about + ": " + call + " answered " + got + ", due is " + want);
        }
    }

    int wrong() {
        return wrong;
    }

    void end() {
        System.out.println(checked + " checks, " + wrong + " wrong");
        if (wrong != 0) {
            System.exit(1);
        }
    }

    /** A window of five lines (at most) with just these heights; what its ground has too much or too little, changes mend. */
    static MadeLand land(int[][] heights) {
        MadeLand land = new MadeLand();
        land.size(heights.length);
        for (int y = 0; y < heights.length; y++) {
            for (int x = 0; x < heights.length; x++) {
                raise(land, heights.length * y + x, heights[y][x] - LandByTheBook.ground(0, x, y));
            }
        }
        return land;
    }

    static MadeLand flatLand(int height) {
        return flatLand(5, height);
    }

    static MadeLand flatLand(int n, int height) {
        int[][] heights = new int[n][n];
        for (int[] line : heights) {
            java.util.Arrays.fill(line, height);
        }
        return land(heights);
    }

    /** A window of n lines, all sea (SEA is 255) but for these places, each with its height from 255 to 400. */
    static MadeLand islands(int n, int[]... placesAndHeights) {
        MadeLand land = new MadeLand();
        land.size(n);
        land.rule(0, 255);
        for (int[] one : placesAndHeights) {
            raise(land, one[0], one[1] - LandByTheBook.ground(0, one[0] % n, one[0] / n));
        }
        return land;
    }

    private static void raise(MadeLand land, int place, int by) {
        if (by != 0 && land.change(place, by) < 0) {
            throw new IllegalStateException("no land can be made so");
        }
    }

    /** All that an object of a small window answers; what is there twice by its nature is asked once. */
    static int[] allOf(MadeLand land) {
        int[] all = new int[700];
        int k = 0;
        for (int what = 0; what <= 10; what++) {
            all[k++] = land.told(what);
        }
        for (int i = 0; i < all[9]; i++) {
            for (int what = 0; what < 3; what++) {
                all[k++] = land.changed(i, what);
            }
        }
        for (int place = 0; place < all[0] * all[0]; place++) {
            for (int what = 0; what <= 6; what++) {
                all[k++] = land.about(place, what);
            }
            all[k++] = land.is(place);
            all[k++] = land.lake(place);
            all[k++] = land.roads(place);
        }
        all[k++] = land.lakes();
        for (int what = 1; what <= 32; what *= 2) {
            all[k++] = land.many(what);
        }
        for (int what = 0; what <= 20; what++) {
            all[k++] = land.net(what);
        }
        for (int a = 0; a < all[7]; a++) {
            all[k++] = land.town(a);
            for (int b = 0; b < all[7]; b++) {
                all[k++] = land.cost(a, b);
                all[k++] = land.way(a, b, 2);
            }
        }
        return java.util.Arrays.copyOf(all, k);
    }

    /** Every answer of the one is that of the other. */
    void same(String call, MadeLand got, MadeLand want) {
        due(call, java.util.Arrays.equals(allOf(got), allOf(want)) ? 1 : 0, 1);
    }

    /** One due answer for each call of a row. */
    void dueRow(String call, int[] got, int... want) {
        due(call + ": " + java.util.Arrays.toString(got), java.util.Arrays.equals(got, want) ? 1 : 0, 1);
    }
}
