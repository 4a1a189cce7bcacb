/** The example of README.md, line by line, with the answers that it tells; and what its text says of refused calls. */
public final class ReadmeTest {
    public static void main(String[] args) {
        example();
        rulesOnlyBetweenGames();
        Checks.end("ReadmeTest");
    }

    private static void example() {
        Tiltcourt x = new Tiltcourt();
        int start = x.place('p', 0);
        int bumper = x.place('b', 0);
        int flipper = x.place('f', 0);
        int hole = x.place('h', 0);
        int drain = x.place('d', 0);
        x.lane(start, bumper, 24);
        x.lane(bumper, flipper, 30);
        x.lane(flipper, hole, 36);
        x.lane(flipper, drain, 60);
        x.lane(hole, bumper, 16);
        int hit = x.rule(0, 's', bumper, false);
        x.action(hit, 'p', 5);
        x.action(hit, '+', 1);
        int held = x.rule(0, 's', hole, false);
        x.action(held, 'S', 1);
        int begun = x.rule(1, 'b', 0, false);
        x.action(begun, 'm', 3);
        x.action(begun, 'T', 10);
        int out = x.rule(1, 't', 0, false);
        x.action(out, 'k', hole);
        x.action(out, 'X', 1);
        Checks.same("a credit", x.coin(2), 1);
        Checks.same("none is left", x.begin(1), 0);
        Checks.same("the bumper", x.tick(3), 1);
        Checks.same("comes up", x.press(0), true);
        Checks.same("the flipper, then the hole", x.tick(4), 2);
        Checks.same("rests", x.state(0), 'r');
        Checks.same("there", x.at(0), hole);
        Checks.same("the mode 1 runs", x.runs(1), true);
        Checks.same("was up", x.letGo(0), true);
        Checks.same("the bumper, the flipper, the drain", x.tick(20), 3);
        Checks.same("launched again", x.at(0), bumper);
        Checks.same("the mode 1 has ended", x.runs(1), false);
        Checks.same("50, and 50 times 3", x.points(0), 200);
        Checks.same("hits", x.variable(0, 0), 2);
        for (int i = 0; i < 10 && x.player() >= 0; i++) {
            x.tick(100);
        }
        Checks.same("the game is over", x.player(), -1);
        Checks.same("points", x.points(0), 550);
        Checks.same("saved once", x.save(), 1);
    }

    /** "can't be added while a game is on; ranks and faults can be changed then" */
    private static void rulesOnlyBetweenGames() {
        Tiltcourt x = Checks.table("p d", 0, 1, 12);
        x.rule(0, 's', 1, false);
        Checks.start(x, 1);
        Checks.fails("place", Checks.STATE, () -> x.place('p', 0));
        Checks.fails("lane", Checks.STATE, () -> x.lane(0, 1, 1));
        Checks.fails("rule", Checks.STATE, () -> x.rule(0, 's', 1, false));
        Checks.fails("condition", Checks.STATE, () -> x.condition(0, 0, '=', 0));
        Checks.fails("action", Checks.STATE, () -> x.action(0, 'p', 1));
        Checks.same("rank", x.rank(0, 4), 0);
        Checks.same("fail", x.fail(1, true), false);
        Checks.same("spoil", x.spoil(true), false);
        Checks.same("the switch gives no event", x.tick(1), 0);
    }
}
