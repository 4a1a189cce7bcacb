/** Switches that are seen where no ball is: promises 5, 6 and 27 with bad diodes. */
public final class SwitchTest {
    public static void main(String[] args) {
        seenCorner();
        goodDiodes();
        notAPlace();
        failingCorner();
        behindAllOthers();
        cornersAtZero();
        Checks.end("SwitchTest");
    }

    /** After 4 ticks balls rest in the holes 1, 4, 4 and 5, the other corner being the place 0. */
    private static Tiltcourt threeCorners(String kinds) {
        Tiltcourt x = Checks.lanes(Checks.machine(kinds),
                0, 1, 12, 1, 4, 8, 4, 5, 8, 5, 2, 8, 3, 2, 8);
        int first = Checks.rule(x, 0, 's', 1, "L0", "k1", "+1");
        x.condition(first, 0, '<', 3);
        int second = Checks.rule(x, 0, 's', 4, "k4", "+1");
        x.condition(second, 1, '<', 1);
        Checks.rule(x, 0, 's', 0, "p1");
        return x;
    }

    private static void seenCorner() {
        Tiltcourt x = threeCorners("phdphh");
        x.spoil(true);
        Checks.start(x, 1);
        Checks.same("events of 2 ticks", x.tick(2), 3);
        Checks.same("3 balls and the one that is seen as they have moved", x.tick(1), 4);
        Checks.same("its event is done", x.points(0), 10);
        Checks.same("not seen, as a rule has kicked the ball of a corner", x.isSeen(0), false);
        Checks.same("2 balls; as balls have moved, it was so in the tick before", x.tick(1), 2);
        Checks.same("seen", x.isSeen(0), true);
        Checks.same("seen by a ball", x.isSeen(5), true);
        Checks.same("not seen", x.isSeen(2), false);
        Checks.same("not in the next tick", x.tick(1), 0);
        x.fail(5, true);
        Checks.same("a corner fails", x.isSeen(0), false);
        x.fail(5, false);
        Checks.same("between ticks", x.tick(1), 0);
        x.fail(5, true);
        x.tick(1);
        x.fail(5, false);
        Checks.same("it was not so in the tick before", x.tick(1), 1);
        x.spoil(false);
        Checks.same("good diodes", x.isSeen(0), false);
        x.tick(1);
        x.spoil(true);
        Checks.same("bad diodes", x.isSeen(0), true);
        Checks.same("an event again", x.tick(1), 1);
        Checks.same("points", x.points(0), 30);
        x.fail(0, true);
        Checks.same("it fails itself", x.isSeen(0), false);
        Checks.same("no event", x.tick(1), 0);
        Checks.same("isConsistent", x.isConsistent(), true);
    }

    private static void goodDiodes() {
        Tiltcourt x = threeCorners("phdphh");
        Checks.start(x, 1);
        Checks.same("events of 10 ticks", x.tick(10), 8);
        Checks.same("not seen", x.isSeen(0), false);
        Checks.same("points", x.points(0), 0);
    }

    /** The corners 3, 2 and 6 would show the place 7, which is not there. */
    private static void notAPlace() {
        Tiltcourt x = Checks.lanes(Checks.machine("pdhhphh"),
                0, 2, 12, 2, 3, 8, 3, 6, 8, 6, 1, 8, 5, 1, 8, 4, 1, 8);
        x.spoil(true);
        int first = Checks.rule(x, 0, 's', 2, "L0", "k2", "+1");
        x.condition(first, 0, '<', 3);
        int second = Checks.rule(x, 0, 's', 3, "k3", "+1");
        x.condition(second, 1, '<', 1);
        Checks.start(x, 1);
        Checks.same("events", x.tick(4), 8);
        Checks.same("corner", x.isSeen(2) && x.isSeen(3) && x.isSeen(6), true);
        Checks.fails("isSeen of 7", IndexOutOfBoundsException.class, () -> x.isSeen(7));
        Checks.same("no event of no place", x.tick(5), 0);
    }

    private static void failingCorner() {
        Tiltcourt x = threeCorners("phdphh");
        x.spoil(true);
        x.fail(0, true);
        Checks.start(x, 1);
        Checks.same("a switch that fails gives no event where it is seen", x.tick(4), 8);
        x.fail(0, false);
        Checks.same("then it is seen", x.isSeen(0), true);
        Checks.same("and was not in the tick before", x.tick(1), 1);
    }

    /** In the tick 3 the event of the place 0 finds the variable as all others have left it. */
    private static void behindAllOthers() {
        Tiltcourt x = threeCorners("phdphh");
        x.spoil(true);
        Checks.rule(x, 0, 's', 4, "T1");
        on(x, Checks.rule(x, 0, 's', 0, "p100"), '=', 7);
        on(x, Checks.rule(x, 0, 's', 1, "+1"), '>', 5);
        on(x, Checks.rule(x, 0, 's', 5, "+1"), '=', 5);
        on(x, Checks.rule(x, 0, 't', 0, "=5"), '<', 5);
        Checks.start(x, 1);
        x.tick(3);
        Checks.same("the timer, the balls of the places 5 and 1, then the one that is seen", x.points(0), 1010);
    }

    private static void on(Tiltcourt x, int rule, char sign, int number) {
        x.condition(rule, 2, sign, number);
    }

    /** The corners 0, 1 and 4 show the place 5. */
    private static void cornersAtZero() {
        Tiltcourt x = Checks.lanes(Checks.machine("hhpdhp"), 0, 1, 12, 1, 4, 8, 4, 0, 8, 2, 3, 8, 5, 3, 8);
        x.spoil(true);
        int first = Checks.rule(x, 0, 's', 1, "L0", "k1", "+1");
        x.condition(first, 0, '<', 3);
        int second = Checks.rule(x, 0, 's', 4, "k4", "+1");
        x.condition(second, 1, '<', 1);
        Checks.rule(x, 0, 's', 5, "p1");
        Checks.start(x, 1);
        x.tick(4);
        Checks.same("rests at 0", x.isSeen(0), true);
        Checks.same("seen", x.isSeen(5), true);
        Checks.same("its event", x.points(0), 10);
    }
}
