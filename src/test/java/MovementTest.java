/** How balls move: each kind of place, flippers, coils, and promises 13, 14, 22 to 24 and 26. */
public final class MovementTest {
    public static void main(String[] args) {
        whereBallsAre();
        plain();
        bumper();
        bumperLocks();
        fortyDoesNotLock();
        ramp();
        gateAndSlowBalls();
        flipperDown();
        flipperStrikes();
        flipperHolds();
        buttons();
        hole();
        lockedHole();
        lowestBallIsKicked();
        quietTable();
        quietFromLaunch();
        fortyOneLocks();
        strikeSpeed();
        launchCountsQuietFromZero();
        holeAtTheStart();
        Checks.end("MovementTest");
    }

    private static void whereBallsAre() {
        Tiltcourt x = Checks.lanes(Checks.machine("phd"), 0, 1, 25, 1, 2, 9);
        for (int i = 0; i < 4; i++) {
            int ball = i;
            Checks.same("state", x.state(i), '-');
            Checks.fails("at home", java.util.NoSuchElementException.class, () -> x.at(ball));
            Checks.fails("left of home", java.util.NoSuchElementException.class, () -> x.left(ball));
        }
        for (int ball : new int[] {-1, 4, Integer.MIN_VALUE, Integer.MAX_VALUE}) {
            Checks.fails("state of " + ball, IndexOutOfBoundsException.class, () -> x.state(ball));
            Checks.fails("at of " + ball, IndexOutOfBoundsException.class, () -> x.at(ball));
            Checks.fails("left of " + ball, IndexOutOfBoundsException.class, () -> x.left(ball));
        }
        Checks.start(x, 1);
        Checks.same("launched", x.state(0), 'l');
        Checks.same("to", x.at(0), 1);
        Checks.same("25 by 12, rounded up", x.left(0), 3);
        Checks.same("others are home", x.state(1), '-');
        x.tick(2);
        Checks.same("left", x.left(0), 1);
        Checks.same("isSeen of an empty hole", x.isSeen(1), false);
        x.tick(1);
        Checks.same("rests", x.state(0), 'r');
        Checks.same("where it rests", x.at(0), 1);
        Checks.same("left of one that rests", x.left(0), 0);
        Checks.same("isSeen of a hole with a ball", x.isSeen(1), true);
        Checks.same("fail", x.fail(1, true), false);
        Checks.same("isSeen of a switch that fails", x.isSeen(1), false);
        Checks.fails("isSeen of -1", IndexOutOfBoundsException.class, () -> x.isSeen(-1));
        Checks.fails("isSeen of 3", IndexOutOfBoundsException.class, () -> x.isSeen(3));
        Checks.fails("heat of -1", IndexOutOfBoundsException.class, () -> x.heat(-1));
        Checks.fails("heat of 3", IndexOutOfBoundsException.class, () -> x.heat(3));
    }

    private static void plain() {
        Tiltcourt x = Checks.lanes(Checks.machine("ppd"), 0, 1, 12, 1, 2, 200, 1, 2, 100, 1, 1, 89);
        Checks.start(x, 1);
        x.tick(1);
        Checks.same("11 modulo 3: the lane 2", x.at(0), 1);
        Checks.same("89 by 11", x.left(0), 9);
        x.tick(9);
        Checks.same("10 modulo 3: the lane 1", x.at(0), 2);
        Checks.same("100 by 10", x.left(0), 10);
        Checks.same("heat without a coil", x.heat(1), 0);
    }

    private static void bumper() {
        Tiltcourt x = Checks.lanes(Checks.machine("pbd"), 0, 1, 12, 1, 2, 200, 1, 1, 91, 1, 2, 199);
        Checks.start(x, 1);
        x.tick(1);
        // 15 modulo 3 is the lane 0, and the number 200 by 15 is 13.3
        Checks.same("with 4 more", x.left(0), 14);
        Checks.same("heat", x.heat(1), 12);
        x.tick(11);
        Checks.same("heat after 11 ticks", x.heat(1), 1);
        x.tick(1);
        Checks.same("heat after 12 ticks", x.heat(1), 0);

        Tiltcourt fast = Checks.lanes(Checks.machine("pbd"), 0, 1, 12, 1, 1, 100);
        Checks.start(fast, 1);
        fast.tick(1);
        Checks.same("15", fast.left(0), 7);
        fast.tick(7);
        Checks.same("18", fast.left(0), 6);
        fast.tick(6);
        Checks.same("at most 20", fast.left(0), 5);
    }

    private static void bumperLocks() {
        Tiltcourt x = Checks.lanes(Checks.machine("pbd"), 0, 1, 12, 1, 1, 1);
        Checks.start(x, 1);
        x.tick(1);
        Checks.same("heat of 1 use", x.heat(1), 12);
        x.tick(2);
        Checks.same("heat of 3 uses", x.heat(1), 34);
        x.tick(1);
        Checks.same("heat of 4 uses: locked", x.heat(1), 45);
        Checks.same("events come also while it is locked", x.tick(30), 30);
        Checks.same("heat of 15 is locked still", x.heat(1), 15);
        x.tick(1);
        Checks.same("heat of 14 is free", x.heat(1), 26);
    }

    private static void fortyDoesNotLock() {
        Tiltcourt x = Checks.lanes(Checks.machine("pbd"), 0, 1, 12, 1, 1, 37);
        Checks.start(x, 1);
        x.tick(9);
        Checks.same("heat of 40", x.heat(1), 40);
        x.tick(2);
        Checks.same("is used again", x.heat(1), 50);
        x.tick(2);
        Checks.same("then it is locked", x.heat(1), 48);
        x.tick(2);
        Checks.same("the speed of a locked one, 19, needs 2 ticks", x.heat(1), 46);
        Checks.same("then 18, which needs 3", x.left(0), 3);
    }

    private static void ramp() {
        for (int needed = 10; needed <= 12; needed++) {
            Tiltcourt x = Checks.lanes(rampMachine(needed), 0, 1, 12, 1, 2, 100, 1, 0, 100);
            Checks.start(x, 1);
            x.tick(1);
            Checks.same("11 on a ramp of " + needed, x.at(0), needed <= 11 ? 2 : 0);
            Checks.same("its ticks", x.left(0), needed <= 11 ? 12 : 50);
        }
    }

    private static Tiltcourt rampMachine(int needed) {
        Tiltcourt x = new Tiltcourt();
        x.place('p', 0);
        x.place('r', needed);
        x.place('d', 0);
        return x;
    }

    private static void gateAndSlowBalls() {
        Tiltcourt x = new Tiltcourt();
        x.place('p', 0);
        x.place('r', 20);
        x.place('r', 1);
        x.place('g', 0);
        x.place('d', 0);
        Checks.lanes(x, 0, 1, 12, 1, 4, 1, 1, 2, 2, 2, 3, 5, 2, 4, 1, 3, 4, 1, 3, 4, 7);
        Checks.start(x, 1);
        x.tick(1);
        Checks.same("too slow for the first", x.at(0), 2);
        x.tick(1);
        Checks.same("1 is enough for the second", x.at(0), 3);
        Checks.same("2 less, at least 1", x.left(0), 5);
        x.tick(5);
        Checks.same("a closed gate's lane 1", x.at(0), 4);
        Checks.same("1 less, at least 1", x.left(0), 7);
    }

    private static Tiltcourt flippers(int lanes) {
        Tiltcourt x = Checks.lanes(Checks.machine("pfd"), 0, 1, 48);
        for (int i = 0; i < lanes; i++) {
            x.lane(1, 2, 18 * (i + 2));
        }
        Checks.start(x, 1);
        return x;
    }

    private static void flipperDown() {
        Tiltcourt x = flippers(3);
        x.tick(4);
        Checks.same("the last lane, 72 by 11", x.left(0), 7);
    }

    /** The ball comes in the tick 4; lanes take 2, 3, 4, 5 ticks by 18. */
    private static void flipperStrikes() {
        for (int lanes = 2; lanes <= 4; lanes++) {
            for (int up = 0; up < 3; up++) {
                Tiltcourt x = flippers(lanes);
                if (up < 3) {
                    x.tick(3 - up);
                }
                Checks.same("press", x.press(0), true);
                x.tick(up + 1);
                Checks.same("left of " + lanes + " lanes, up " + up, x.left(0), up % (lanes - 1) + 2);
                Checks.same("state of " + lanes + " lanes, up " + up, x.state(0), 'l');
            }
        }
        Tiltcourt other = flippers(3);
        other.press(1);
        other.tick(4);
        Checks.same("the flipper of the other side", other.left(0), 7);
    }

    private static void flipperHolds() {
        Tiltcourt x = flippers(3);
        x.press(0);
        Checks.same("its event", x.tick(4), 1);
        Checks.same("up 3", x.state(0), 'r');
        Checks.same("at", x.at(0), 1);
        x.tick(50);
        Checks.same("rests", x.state(0), 'r');
        Checks.same("letGo", x.letGo(0), true);
        Checks.same("press", x.press(0), true);
        x.tick(1);
        Checks.same("let go only between ticks", x.state(0), 'r');
        x.letGo(0);
        Checks.same("no tick yet", x.state(0), 'r');
        Checks.same("no event by leaving", x.tick(1), 0);
        Checks.same("leaves", x.state(0), 'l');
        Checks.same("by the last lane with 3", x.left(0), 24);
    }

    private static void buttons() {
        Tiltcourt x = Checks.lanes(Checks.machine("pd"), 0, 1, 200);
        Checks.fails("press -1", IndexOutOfBoundsException.class, () -> x.press(-1));
        Checks.fails("press 2", IndexOutOfBoundsException.class, () -> x.press(2));
        Checks.fails("letGo -1", IndexOutOfBoundsException.class, () -> x.letGo(-1));
        Checks.fails("letGo 2", IndexOutOfBoundsException.class, () -> x.letGo(2));
        Checks.fails("press without a game", IllegalStateException.class, () -> x.press(0));
        Checks.fails("letGo without a game", IllegalStateException.class, () -> x.letGo(1));
        Checks.start(x, 1);
        Checks.same("letGo of one that is down", x.letGo(0), false);
        Checks.same("press", x.press(0), true);
        Checks.same("press again", x.press(0), false);
        Checks.same("press of the other", x.press(1), true);
        Checks.same("letGo", x.letGo(0), true);
        Checks.same("letGo again", x.letGo(0), false);
        Checks.same("press after it", x.press(0), true);
        x.tick(40);
        Checks.same("flippers as they are when a ball begins", x.press(0), false);
        for (int i = 0; i < 6 && x.player() >= 0; i++) {
            x.tick(100);
        }
        Checks.same("the game is over", x.player(), -1);
        Checks.start(x, 1);
        Checks.same("down when the game is over", x.press(0), true);

        Tiltcourt again = flippers(4);
        again.press(0);
        again.tick(2);
        again.press(0);
        again.tick(2);
        Checks.same("they go on as they are", again.state(0), 'r');
    }

    private static void hole() {
        Tiltcourt x = Checks.lanes(Checks.machine("phd"), 0, 1, 12, 1, 2, 17);
        Checks.rule(x, 0, 's', 1, "T2");
        Checks.rule(x, 0, 't', 0, "k1", "k1", "+1");
        Checks.start(x, 1);
        x.tick(2);
        Checks.same("rests", x.state(0), 'r');
        Checks.same("heat before", x.heat(1), 0);
        x.tick(1);
        Checks.same("kicked by the lane 0 with 8", x.left(0), 3);
        Checks.same("the second kick met no ball", x.heat(1), 12);
        Checks.same("both actions", x.variable(0, 0), 1);
    }

    /** A hole that kicks to itself in each tick gets too hot by the 4th kick. */
    private static void lockedHole() {
        Tiltcourt x = Checks.lanes(Checks.machine("phd"), 0, 1, 12, 1, 1, 8);
        Checks.rule(x, 0, 's', 1, "k1");
        Checks.start(x, 1);
        Checks.same("events", x.tick(4), 4);
        Checks.same("heat", x.heat(1), 45);
        Checks.same("it comes once more", x.tick(3), 1);
        Checks.same("and is not kicked", x.state(0), 'r');
        Checks.same("which is no use", x.heat(1), 42);
    }

    private static void lowestBallIsKicked() {
        Tiltcourt x = Checks.lanes(Checks.machine("phd"), 0, 1, 12, 1, 2, 80);
        int rule = Checks.rule(x, 0, 's', 1, "+1", "L0");
        x.condition(rule, 0, '<', 4);
        int last = Checks.rule(x, 0, 's', 1, "k1", "+1");
        x.condition(last, 0, '=', 4);
        Checks.start(x, 1);
        x.tick(3);
        Checks.same("three rest", x.state(2), 'r');
        Checks.same("the fourth comes", x.state(3), 'l');
        x.tick(1);
        Checks.same("the lowest one was kicked", x.state(0), 'l');
        Checks.same("to the drain", x.at(0), 2);
        for (int i = 1; i < 4; i++) {
            Checks.same("others rest", x.state(i), 'r');
        }
        Checks.same("variable", x.variable(0, 0), 5);
        x.tick(10);
        Checks.same("home", x.state(0), '-');
        Checks.same("the ball goes on with the others", x.ball(), 1);
        Checks.same("bad diodes do not matter here", x.spoil(true), false);
    }

    private static void quietTable() {
        Tiltcourt x = Checks.lanes(Checks.machine("phd"), 0, 1, 12, 1, 1, 8);
        Checks.start(x, 1);
        x.tick(100);
        x.tick(100);
        Checks.same("199 quiet ticks", x.state(0), 'r');
        x.tick(1);
        Checks.same("200 quiet ticks", x.state(0), 'l');
        Checks.same("its heat", x.heat(1), 12);
        Checks.same("its next event", x.tick(1), 1);
        x.tick(100);
        x.tick(99);
        Checks.same("199 quiet ticks again", x.state(0), 'r');
        x.tick(1);
        Checks.same("200 quiet ticks again", x.state(0), 'l');
    }

    private static void quietFromLaunch() {
        Tiltcourt x = Checks.lanes(Checks.machine("phd"), 0, 1, 12, 1, 1, 8);
        x.fail(1, true);
        Checks.start(x, 1);
        x.tick(100);
        x.tick(99);
        Checks.same("199 ticks from the launch", x.state(0), 'r');
        x.tick(1);
        Checks.same("200 ticks from the launch", x.state(0), 'l');
        x.tick(100);
        x.tick(99);
        Checks.same("199 ticks from the kick", x.state(0), 'r');
        x.tick(1);
        Checks.same("200 ticks from the kick", x.state(0), 'l');
    }

    private static void fortyOneLocks() {
        Tiltcourt x = Checks.lanes(Checks.machine("pbd"), 0, 1, 12, 1, 1, 80);
        Checks.start(x, 1);
        x.tick(20);
        Checks.same("heat of 41", x.heat(1), 41);
        x.tick(4);
        Checks.same("is locked", x.heat(1), 37);
    }

    private static void strikeSpeed() {
        for (int length = 36; length <= 37; length++) {
            Tiltcourt x = Checks.lanes(Checks.machine("pfd"), 0, 1, 12, 1, 2, length, 1, 2, 5);
            Checks.start(x, 1);
            x.press(0);
            x.tick(1);
            Checks.same("by 18", x.left(0), length == 36 ? 2 : 3);
        }
    }

    /** All switches fail; the ball drains, is launched again in the tick 20, and rests in the hole then. */
    private static void launchCountsQuietFromZero() {
        Tiltcourt x = Checks.lanes(Checks.machine("pfhd"), 0, 1, 12, 1, 2, 18, 1, 3, 200, 2, 2, 8);
        for (int i = 0; i < 4; i++) {
            x.fail(i, true);
        }
        Checks.start(x, 1);
        x.tick(20);
        Checks.same("launched again", x.at(0), 1);
        x.press(0);
        x.tick(2);
        Checks.same("rests", x.state(0), 'r');
        x.tick(100);
        x.tick(97);
        Checks.same("199 ticks from the launch", x.state(0), 'r');
        x.tick(1);
        Checks.same("200 ticks from the launch", x.state(0), 'l');
    }

    private static void holeAtTheStart() {
        Tiltcourt x = Checks.lanes(Checks.machine("hd"), 0, 0, 12);
        Checks.start(x, 1);
        x.tick(1);
        Checks.same("rests at the start", x.state(0), 'r');
        x.tick(100);
        x.tick(100);
        Checks.same("kicked", x.state(0), 'l');
        Checks.same("with 8", x.left(0), 2);
    }
}
