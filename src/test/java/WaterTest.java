import java.util.Arrays;

/** Promises 9 to 14: the rules, the water and the lakes, on lands made by hand. */
public final class WaterTest {
    private static final Checks CHECKS = new Checks();

    /** A bowl of one lake, with its spill at place 17 and its outlet at 22. */
    private static final int[][] BOWL = {
        {50, 50, 50, 50, 50},
        {50, 20, 10, 20, 50},
        {50, 20, 10, 20, 50},
        {50, 50, 30, 50, 50},
        {50, 50, 25, 50, 50}};

    public static void main(String[] args) {
        rules();
        theBowl();
        seaLands();
        wrongPlaces();
        kinds();
        manyKinds();
        lakes();
        CHECKS.end();
    }

    private static void due(String call, long got, long want) {
        CHECKS.due(call, got, want);
    }

    private static MadeLand bowl() {
        MadeLand x = Checks.land(BOWL);
        x.rule(0, 0);
        return x;
    }

    private static void dueOfAll(MadeLand x, int what, int... want) {
        int[] got = new int[want.length];
        for (int place = 0; place < want.length; place++) {
            got[place] = x.about(place, what);
        }
        due("about(.., " + what + "): " + Arrays.toString(got), Arrays.equals(got, want) ? 1 : 0, 1);
    }

    private static void rules() {
        CHECKS.of("promise 9");
        MadeLand x = new MadeLand();
        int[] least = {0, 2, 1, 0};
        int[] first = {80, 8, 4, 20};
        int[] most = {255, 200, 12, 100};
        for (int what = 0; what < 4; what++) {
            due("rule(" + what + ", one less)", x.rule(what, least[what] - 1), -2);
            due("rule(" + what + ", one more)", x.rule(what, most[what] + 1), -2);
            due("told", x.told(3 + what), first[what]);
            due("rule(" + what + ", least)", x.rule(what, least[what]), first[what]);
            due("rule(" + what + ", most)", x.rule(what, most[what]), least[what]);
            due("told", x.told(3 + what), most[what]);
        }
        due("rule(4, 5)", x.rule(4, 5), -2);
        due("rule(-1, 5)", x.rule(-1, 5), -2);
        due("rule(MAX, 5)", x.rule(Integer.MAX_VALUE, 5), -2);
    }

    private static void theBowl() {
        CHECKS.of("promise 10, the bowl");
        MadeLand x = bowl();
        dueOfAll(x, 0,
                50, 50, 50, 50, 50, 50, 20, 10, 20, 50, 50, 20, 10, 20, 50, 50, 50, 30, 50, 50, 50, 50, 25, 50, 50);
        dueOfAll(x, 1,
                50, 50, 50, 50, 50, 50, 30, 30, 30, 50, 50, 30, 30, 30, 50, 50, 50, 30, 50, 50, 50, 50, 25, 50, 50);
        dueOfAll(x, 2,
                -6, -6, -6, -6, -6, -6, 7, 12, 7, -6, -6, 12, 17, 12, -6, -6, 17, 22, 17, -6, -6, -6, -6, -6, -6);
        dueOfAll(x, 3, 1, 1, 1, 1, 1, 1, 1, 3, 1, 1, 1, 1, 6, 1, 1, 1, 1, 9, 1, 1, 1, 1, 10, 1, 1);
        dueOfAll(x, 4,
                0, 1, 2, 3, 4, 5, 22, 22, 22, 9, 10, 22, 22, 22, 14, 15, 22, 22, 22, 19, 20, 21, 22, 23, 24);
        dueOfAll(x, 5,
                0, 1, 2, 3, 4, 5, 19, 18, 20, 6, 7, 21, 17, 22, 8, 9, 23, 16, 24, 10, 11, 12, 13, 14, 15);
        dueOfAll(x, 6,
                450, 450, 450, 450, 450, 450, -6, -6, -6, 450, 450, -6, -6, -6, 450,
                450, 459, -6, 459, 450, 450, 460, -6, 460, 450);
        x.rule(1, 10);
        due("about(17, 6), no river more", x.about(17, 6), 480);
        due("about(16, 6)", x.about(16, 6), 450);
        x.rule(1, 11);
        due("about(22, 6)", x.about(22, 6), 475);
        due("about(23, 6)", x.about(23, 6), 450);
    }

    private static void seaLands() {
        CHECKS.of("promise 10, the sea");
        MadeLand x = bowl();
        x.rule(0, 20);
        dueOfAll(x, 1,
                50, 50, 50, 50, 50, 50, 20, 20, 20, 50, 50, 20, 20, 20, 50, 50, 50, 30, 50, 50, 50, 50, 25, 50, 50);
        due("about(7, 2)", x.about(7, 2), -6);
        due("about(7, 4)", x.about(7, 4), 7);
        due("about(7, 5), by numbers", x.about(7, 5), 6);
        due("about(6, 2)", x.about(6, 2), 7);
        due("about(8, 2)", x.about(8, 2), 7);
        due("about(13, 4)", x.about(13, 4), 12);
        due("about(17, 2), the least level", x.about(17, 2), 12);
        due("about(7, 3)", x.about(7, 3), 3);
        due("about(12, 3)", x.about(12, 3), 6);
        due("about(6, 6), neither sea nor lake", x.about(6, 6), 480);
        due("is(6), the sea's level is no lake", x.is(6), 8);
        x.rule(0, 51);
        due("about(0, 1), sea at the rim", x.about(0, 1), 51);
        due("about(12, 5)", x.about(12, 5), 12);
        due("many(1)", x.many(1), 25);
        due("about(12, 3)", x.about(12, 3), 1);
    }

    private static void wrongPlaces() {
        CHECKS.of("promises 10, 11, 14, wrong places");
        MadeLand x = bowl();
        int[] wrong = {-1, 25, Integer.MIN_VALUE, Integer.MAX_VALUE};
        for (int place : wrong) {
            due("about(" + place + ", 0)", x.about(place, 0), -1);
            due("about(" + place + ", 7), the place first", x.about(place, 7), -1);
            due("is(" + place + ")", x.is(place), -1);
            due("lake(" + place + ")", x.lake(place), -1);
        }
        due("about(0, 7)", x.about(0, 7), -2);
        due("about(0, -1)", x.about(0, -1), -2);
        due("about(24, MIN)", x.about(24, Integer.MIN_VALUE), -2);
    }

    private static void kinds() {
        CHECKS.of("promise 11");
        MadeLand x = bowl();
        due("is(0)", x.is(0), 8);
        due("is(12)", x.is(12), 2);
        due("is(17), 9 of 8", x.is(17), 4);
        x.rule(1, 9);
        due("is(17), 9 of 9", x.is(17), 4);
        x.rule(1, 10);
        due("is(17), 9 of 10", x.is(17), 8);
        due("is(22), 10 of 10", x.is(22), 4);
        x.rule(0, 10);
        due("is(12), no sea at its level", x.is(12), 2);
        x.rule(0, 11);
        due("is(12)", x.is(12), 1);
        x.rule(2, 6);
        x.towns(2);
        due("town(0)", x.town(0), 6);
        due("is(6)", x.is(6), 8 + 16 + 32);
        due("town(1)", x.town(1), 24);
        due("is(24)", x.is(24), 8 + 16 + 32);
        x.towns(1);
        due("is(6), no road more", x.is(6), 8 + 16);
        due("is(24)", x.is(24), 8);
    }

    private static void manyKinds() {
        CHECKS.of("promise 12");
        MadeLand x = bowl();
        due("many(1)", x.many(1), 0);
        due("many(2)", x.many(2), 6);
        due("many(4)", x.many(4), 2);
        due("many(8)", x.many(8), 17);
        due("many(16)", x.many(16), 0);
        due("many(32)", x.many(32), 0);
        x.towns(2);
        due("many(16)", x.many(16), 2);
        due("many(32), from 21 to 0", x.many(32), 6);
        int[] wrong = {0, 3, 5, 31, 33, 64, -1, Integer.MIN_VALUE, Integer.MAX_VALUE};
        for (int what : wrong) {
            due("many(" + what + ")", x.many(what), -2);
        }
    }

    private static void lakes() {
        CHECKS.of("promises 13 and 14");
        MadeLand x = bowl();
        due("lakes()", x.lakes(), 1);
        due("lake(6)", x.lake(6), 6);
        due("lake(12)", x.lake(12), 6);
        due("lake(17), its spill", x.lake(17), 0);
        due("lake(0)", x.lake(0), 0);
        x.rule(0, 255);
        due("lakes(), all is sea", x.lakes(), 0);
        due("lake(12)", x.lake(12), 0);
        MadeLand corners = Checks.land(new int[][] {
            {50, 50, 50, 50, 50},
            {50, 10, 60, 10, 50},
            {50, 60, 10, 60, 50},
            {50, 10, 60, 20, 50},
            {50, 50, 50, 50, 50}});
        corners.rule(0, 0);
        due("lakes(), at their corners they do not hang together", corners.lakes(), 5);
        due("lake(6)", corners.lake(6), 1);
        due("about(12, 1), behind a wall", corners.about(12, 1), 60);
        due("lake(12)", corners.lake(12), 1);
        due("lake(7)", corners.lake(7), 0);
        corners.change(7, -40);
        due("lakes(), three are one", corners.lakes(), 3);
        due("lake(8)", corners.lake(8), 4);
        due("about(12, 1)", corners.about(12, 1), 50);
        due("undo()", corners.undo() > 0 ? 1 : 0, 1);
        due("lakes()", corners.lakes(), 5);
    }
}
