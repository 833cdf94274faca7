/** Calls that are refused: what they answer, the first that fits, and that they change nothing. */
public final class RefusedTest {
    private static final int MIN = Integer.MIN_VALUE, MAX = Integer.MAX_VALUE;
    private static final int UNKNOWN = -1, OUTSIDE = -2, FULL = -4;
    private static final Checks CHECKS = new Checks();

    /** One call of the face. */
    private interface Call {
        int on(MadeLand land);
    }

    public static void main(String[] args) {
        refused("ground(-1, 0)", OUTSIDE, x -> x.ground(-1, 0));
        refused("ground(0, 200001)", OUTSIDE, x -> x.ground(0, 200001));
        refused("size(3)", OUTSIDE, x -> x.size(3));
        refused("size(25)", OUTSIDE, x -> x.size(25));
        refused("window(-1, 9)", OUTSIDE, x -> x.window(-1, 9));
        refused("window(9, 100001)", OUTSIDE, x -> x.window(9, 100001));
        changes();
        refused("rule(4, 1)", OUTSIDE, x -> x.rule(4, 1));
        refused("rule(-1, 1)", OUTSIDE, x -> x.rule(-1, 1));
        refused("rule(0, -1)", OUTSIDE, x -> x.rule(0, -1));
        refused("rule(0, 256)", OUTSIDE, x -> x.rule(0, 256));
        refused("rule(1, 1)", OUTSIDE, x -> x.rule(1, 1));
        refused("rule(1, 201)", OUTSIDE, x -> x.rule(1, 201));
        refused("rule(2, 0)", OUTSIDE, x -> x.rule(2, 0));
        refused("rule(2, 13)", OUTSIDE, x -> x.rule(2, 13));
        refused("rule(3, -1)", OUTSIDE, x -> x.rule(3, -1));
        refused("rule(3, 101)", OUTSIDE, x -> x.rule(3, 101));
        refused("towns(-1)", OUTSIDE, x -> x.towns(-1));
        refused("towns(7)", OUTSIDE, x -> x.towns(7));
        asked();
        CHECKS.end();
    }

    private static void changes() {
        refused("change(-1, 5)", UNKNOWN, x -> x.change(-1, 5));
        refused("change(16, 0)", UNKNOWN, x -> x.change(16, 0));
        refused("change(3, 0)", OUTSIDE, x -> x.change(3, 0));
        refused("change(3, 401)", OUTSIDE, x -> x.change(3, 401));
        refused("change(3, -401)", OUTSIDE, x -> x.change(3, -401));
        CHECKS.due("change(3, 5), full", refusedOn(full(), full(), "change(3, 5), full", x -> x.change(3, 5)), FULL);
        CHECKS.due("change(3, 0), full", refusedOn(full(), full(), "change(3, 0), full", x -> x.change(3, 0)), OUTSIDE);
        CHECKS.due("change(16, 5), full", refusedOn(full(), full(), "change(16, 5), full", x -> x.change(16, 5)), UNKNOWN);
        CHECKS.due("undo(), none", refusedOn(bare(), bare(), "undo(), none", x -> x.undo()), UNKNOWN);
    }

    private static void asked() {
        refused("changed(2, 0)", -1001, x -> x.changed(2, 0));
        refused("changed(-1, 3)", -1001, x -> x.changed(-1, 3));
        refused("changed(0, 3)", -1002, x -> x.changed(0, 3));
        refused("about(16, 0)", UNKNOWN, x -> x.about(16, 0));
        refused("about(-1, 7)", UNKNOWN, x -> x.about(-1, 7));
        refused("about(0, 7)", OUTSIDE, x -> x.about(0, 7));
        refused("is(16)", UNKNOWN, x -> x.is(16));
        refused("many(3)", OUTSIDE, x -> x.many(3));
        refused("lake(-1)", UNKNOWN, x -> x.lake(-1));
        refused("town(3)", UNKNOWN, x -> x.town(3));
        refused("town(MIN)", UNKNOWN, x -> x.town(MIN));
        refused("cost(0, 3)", UNKNOWN, x -> x.cost(0, 3));
        refused("cost(-1, 0)", UNKNOWN, x -> x.cost(-1, 0));
        refused("way(3, 0, 0)", UNKNOWN, x -> x.way(3, 0, 0));
        refused("way(0, MAX, MAX)", UNKNOWN, x -> x.way(0, MAX, MAX));
        refused("net(3)", OUTSIDE, x -> x.net(3));
        refused("net(-1)", OUTSIDE, x -> x.net(-1));
        refused("roads(16)", UNKNOWN, x -> x.roads(16));
        refused("told(11)", OUTSIDE, x -> x.told(11));
    }

    /** A land with changes, rules and towns of its own, so that whatever is lost would show. */
    private static MadeLand bare() {
        MadeLand x = new MadeLand();
        x.seed(58);
        x.size(4);
        x.window(30, 40);
        x.rule(0, 90);
        x.rule(1, 2);
        x.rule(2, 2);
        x.rule(3, 7);
        x.towns(3);
        return x;
    }

    private static MadeLand land() {
        MadeLand x = bare();
        x.change(5, -30);
        x.change(9, 60);
        return x;
    }

    private static MadeLand full() {
        MadeLand x = bare();
        for (int i = 0; i < 30; i++) {
            x.change(i % 16, i * 3 - 40);
        }
        return x;
    }

    private static void refused(String text, int want, Call call) {
        CHECKS.due(text, refusedOn(land(), land(), text, call), want);
        MadeLand made = land();
        made.many(32);
        CHECKS.due(text, refusedOn(made, land(), text + ", when all is made", call), want);
    }

    /** What the call answers on the one land, which is then still like the other. */
    private static int refusedOn(MadeLand land, MadeLand twin, String text, Call call) {
        CHECKS.of("a refused call changes nothing");
        int answer = call.on(land);
        CHECKS.same(text, land, twin);
        CHECKS.of("what a refused call answers");
        return answer;
    }
}
