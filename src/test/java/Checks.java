/** Counts the calls whose answer is not the one that is due, and makes lands by hand. */
final class Checks {
    private static final int MOST_CHANGES = 30;

    private int checked = 0;
    private int wrong = 0;
    private String about = "";

    /** What the checks that follow are about. */
    void of(String text) {
        about = text;
    }

    void due(String call, long got, long want) {
        checked++;
        if (got != want) {
            wrong++;
            System.out.println(about + ": " + call + " answered " + got + ", due is " + want);
        }
    }

    int wrong() {
        return wrong;
    }

    void end() {
        System.out.println(checked + " checks, " + wrong + " wrong");
        if (wrong != 0) {
            System.exit(1);
        }
    }

    /** A window of five lines (at most) with just these heights; what its ground has too much or too little, changes mend. */
    static MadeLand land(int[][] heights) {
        MadeLand land = new MadeLand();
        land.size(heights.length);
        for (int y = 0; y < heights.length; y++) {
            for (int x = 0; x < heights.length; x++) {
                int by = heights[y][x] - land.ground(x, y);
                if (by != 0 && land.change(heights.length * y + x, by) > MOST_CHANGES) {
                    throw new IllegalStateException("too many changes");
                }
            }
        }
        return land;
    }

    static MadeLand flatLand(int height) {
        int[][] heights = new int[5][5];
        for (int[] line : heights) {
            java.util.Arrays.fill(line, height);
        }
        return land(heights);
    }
}
