/** The edges of balls, places, flippers and coils, and of the promises 13, 14, 22 to 24 and 26, a method for each. */
public final class EdgeBallTest {
    private static final int[] FAR = {-1, Integer.MIN_VALUE, Integer.MAX_VALUE};

    public static void main(String[] args) {
        fourBallsAtHome();
        numbersOfBalls();
        noPlaceAtHome();
        launchesWithTwelve();
        launchesFromEachKind();
        launchesTheLowest();
        launchesNoFifth();
        ticksAreRoundedUp();
        comesWithAtLeastOne();
        laneIsStillToGo();
        plainByModulo();
        bumperByModulo();
        bumperAtMostTwenty();
        rampAtLeast();
        gateByState();
        flipperIsDown();
        flipperIsUpBelowThree();
        flipperIsUpLonger();
        flipperDropsAtTheEndOfATick();
        flipperCountsFromThePress();
        flipperOfTheOtherSide();
        flipperDropsOnATilt();
        pressedTwice();
        letGoTwice();
        downInATilt();
        downAfterAGame();
        wrongSides();
        holeHoldsUntilKicked();
        holeHoldsAll();
        drainIsHome();
        heatByUses();
        heatAtLeastZero();
        lockedAboveForty();
        lockedUntilFourteen();
        lockedBumperGivesNoSpeed();
        lockedHoleIsNotKicked();
        heatStaysOverBallsAndGames();
        heatOfNoCoil();
        Checks.end("EdgeBallTest");
    }

    /** "There are 4 balls, numbered from 0, which are home at first." */
    private static void fourBallsAtHome() {
        Tiltcourt x = Checks.table("p d", 0, 1, 100);
        for (int i = 0; i < 4; i++) {
            Checks.same("ball " + i, x.state(i), '-');
        }
        Checks.start(x, 1);
        Checks.same("launched", x.state(0), 'l');
        for (int i = 1; i < 4; i++) {
            Checks.same("ball " + i, x.state(i), '-');
        }
    }

    /** "if there is no such ball", which comes before "if it is home" */
    private static void numbersOfBalls() {
        Tiltcourt x = new Tiltcourt();
        for (int far : new int[] {-1, 4, Integer.MIN_VALUE, Integer.MAX_VALUE}) {
            Checks.fails("state of " + far, Checks.INDEX, () -> x.state(far));
            Checks.fails("at of " + far, Checks.INDEX, () -> x.at(far));
            Checks.fails("left of " + far, Checks.INDEX, () -> x.left(far));
        }
    }

    /** "if it is home" */
    private static void noPlaceAtHome() {
        Tiltcourt x = Checks.table("p d", 0, 1, 200);
        for (int i = 0; i < 4; i++) {
            int ball = i;
            Checks.fails("at of a ball at home", Checks.NO_ELEMENT, () -> x.at(ball));
            Checks.fails("left of a ball at home", Checks.NO_ELEMENT, () -> x.left(ball));
        }
        Checks.start(x, 1);
        Checks.same("at of one in a lane", x.at(0), 1);
        Checks.same("left of one in a lane", x.left(0), 17);
        Checks.fails("at of another", Checks.NO_ELEMENT, () -> x.at(1));
        Checks.pass(x, 200);
        Checks.fails("at when it is home again", Checks.NO_ELEMENT, () -> x.at(0));
    }

    /** "leaves the place 0 by its lane 0 with the speed 12" */
    private static void launchesWithTwelve() {
        Tiltcourt x = Checks.table("p p d", 0, 2, 60, 0, 1, 12, 0, 1, 12, 1, 2, 5);
        Checks.start(x, 1);
        Checks.same("by the lane 0", x.at(0), 2);
        Checks.same("with 12", x.left(0), 5);
    }

    /** A launch is no coming: no event, no use of a coil, and always the lane 0. */
    private static void launchesFromEachKind() {
        for (String kind : "p b h r20 g f0 f1".split(" ")) {
            Tiltcourt x = Checks.table(kind + " d", 0, 1, 36, 0, 1, 200, 0, 1, 200);
            Checks.start(x, 1);
            Checks.same("launched from " + kind, x.left(0), 3);
            Checks.same("heat of " + kind, x.heat(0), 0);
            Checks.same("its only event", x.tick(3), 1);
        }
    }

    /** "the lowest one that is home": the ball 0 is home again while the ball 1 rests and others never left. */
    private static void launchesTheLowest() {
        Tiltcourt x = Checks.table("p h d", 0, 1, 12, 1, 2, 8);
        Checks.ruleIf(x, "0=0", 0, 's', 1, "L0", "k1", "+1");
        Checks.rule(x, 0, 's', 2, "L0");
        Checks.start(x, 1);
        x.tick(1);
        Checks.same("the ball 1 is launched", x.state(1), 'l');
        x.tick(1);
        Checks.same("the ball 0 was home", x.state(0), 'l');
        Checks.same("the ball 1 rests", x.state(1), 'r');
        Checks.same("the ball 2 stays home", x.state(2), '-');
    }

    /** "a ball is launched, if one is home" */
    private static void launchesNoFifth() {
        Tiltcourt x = Checks.table("p p d", 0, 1, 12, 1, 1, 1);
        Checks.rule(x, 0, 's', 1, "L0", "L0", "L0", "L0");
        Checks.start(x, 1);
        Checks.same("the first", x.tick(1), 1);
        for (int i = 1; i < 4; i++) {
            Checks.same("launched with the others", x.left(i), 1);
        }
        Checks.same("four", x.tick(1), 4);
        Checks.same("four again", x.tick(1), 4);
    }

    /** "as its length divided by its speed, rounded up" */
    private static void ticksAreRoundedUp() {
        for (int length = 1; length <= 200; length++) {
            Tiltcourt x = Checks.table("p h d", 0, 1, length, 1, 2, 5);
            Checks.start(x, 1);
            int due = length % 12 == 0 ? length / 12 : length / 12 + 1;
            Checks.same("ticks of the length " + length, x.left(0), due);
            if (due > 1) {
                x.tick(due - 1);
            }
            Checks.same("still in the lane", x.state(0), 'l');
            x.tick(1);
            Checks.same("come", x.state(0), 'r');
        }
    }

    /** "it comes with 1 less speed, at least 1" */
    private static void comesWithAtLeastOne() {
        Tiltcourt x = Checks.table("p r20 p p d", 0, 1, 12, 1, 4, 1, 1, 2, 2, 2, 3, 3, 3, 4, 4);
        Checks.start(x, 1);
        x.tick(2);
        Checks.same("2 becomes 1", x.left(0), 3);
        x.tick(3);
        Checks.same("1 stays 1", x.left(0), 4);
        Tiltcourt y = Checks.table("p p d", 0, 1, 12, 1, 2, 121);
        Checks.start(y, 1);
        y.tick(1);
        Checks.same("12 becomes 11", y.left(0), 11);
    }

    /** "it leaves, in the same tick, with the lane's ticks still all to go" */
    private static void laneIsStillToGo() {
        Tiltcourt x = Checks.table("p p p d", 0, 1, 12, 1, 2, 22, 2, 3, 1);
        Checks.start(x, 1);
        x.tick(1);
        Checks.same("left in the tick of coming", x.left(0), 2);
        x.tick(1);
        Checks.same("left one tick later", x.left(0), 1);
        Checks.same("at", x.at(0), 2);
        x.tick(1);
        Checks.same("a lane of 1 takes a tick of its own", x.left(0), 1);
        Checks.same("at", x.at(0), 3);
    }

    /** "by the lane v modulo their number, with v": 11 is 0, 1, 2 and 3 modulo 1, 2, 3 and 4. */
    private static void plainByModulo() {
        for (int lanes = 1; lanes <= 4; lanes++) {
            Tiltcourt x = Checks.table("p p d", 0, 1, 12);
            for (int i = 0; i < lanes; i++) {
                x.lane(1, 2, 11 * (i + 3));
            }
            Checks.start(x, 1);
            x.tick(1);
            Checks.same("ticks of the last of " + lanes + " lanes", x.left(0), lanes + 2);
        }
    }

    /** "with v and 4 more, .. by the lane that this is modulo their number": 15 is 0, 1, 0 and 3. */
    private static void bumperByModulo() {
        for (int lanes = 1; lanes <= 4; lanes++) {
            Tiltcourt x = Checks.table("p b d", 0, 1, 12);
            for (int i = 0; i < lanes; i++) {
                x.lane(1, 2, 15 * (i + 3));
            }
            Checks.start(x, 1);
            x.tick(1);
            Checks.same("ticks of one of " + lanes + " lanes", x.left(0), 15 % lanes + 3);
        }
    }

    /** "at most 20": 14 becomes 18, 17 becomes 20, not 21, by the lane 2 of 3; 16 becomes 20. */
    private static void bumperAtMostTwenty() {
        Tiltcourt x = Checks.table("p b b b d", 0, 1, 12, 1, 2, 15, 2, 3, 18, 3, 4, 200, 3, 4, 200, 3, 4, 60);
        Checks.start(x, 1);
        x.tick(2);
        Checks.same("18", x.left(0), 1);
        x.tick(1);
        Checks.same("20 by its lane", x.left(0), 3);
        Tiltcourt y = Checks.table("p b b p b d", 0, 1, 12, 1, 2, 15, 2, 3, 18, 3, 4, 17, 4, 5, 181);
        Checks.start(y, 1);
        y.tick(4);
        Checks.same("16 and 4", y.left(0), 10);
        Tiltcourt z = Checks.table("p b b p p b d", 0, 1, 12, 1, 2, 15, 2, 3, 18, 3, 4, 17, 4, 5, 16, 5, 6, 190);
        Checks.start(z, 1);
        z.tick(5);
        Checks.same("15 and 4", z.left(0), 10);
        Checks.same("heat of each use", z.heat(5), 12);
    }

    /**
     * "if v is at least the speed needed, by the lane 0 with v less 2, at least 1; otherwise by the lane 1, with 2":
     * the ball circles at a gate, 1 slower each tick, and comes to the ramp with v.
     */
    private static void rampAtLeast() {
        for (int needed = 1; needed <= 20; needed++) {
            for (int v = 1; v <= 9; v++) {
                Tiltcourt x = Checks.table("p g r" + needed + " d", 0, 1, 12, 1, 2, 1, 1, 1, 1, 2, 3, 60, 2, 3, 99);
                Checks.rule(x, 0, 's', 1, "+1");
                Checks.ruleIf(x, "0=" + (10 - v), 0, 's', 1, "g1");
                Checks.start(x, 1);
                x.tick(12 - v);
                int speed = v < needed ? 2 : v < 4 ? 1 : v - 2;
                int length = v < needed ? 99 : 60;
                Checks.same(v + " at a ramp of " + needed, x.left(0), (length + speed - 1) / speed);
            }
        }
    }

    /** "by the lane 0, if it is open, otherwise by the lane 1, with v" */
    private static void gateByState() {
        Tiltcourt x = Checks.table("p g d", 0, 1, 12, 1, 2, 90, 1, 1, 11, 1, 2, 200);
        Checks.rule(x, 0, 's', 1, "g1");
        Checks.start(x, 1);
        x.tick(1);
        Checks.same("closed, with 11", x.left(0), 1);
        Checks.same("by the lane 1", x.at(0), 1);
        x.tick(1);
        Checks.same("open, with 10", x.left(0), 9);
        Checks.same("by the lane 0", x.at(0), 2);
    }

    /** A ball that comes in the tick 4 with 11 to a flipper; its lanes take 2, 3, 4 and 5 ticks by 18. */
    private static Tiltcourt flipper(int lanes) {
        Tiltcourt x = Checks.table("p f d", 0, 1, 48);
        for (int i = 0; i < lanes; i++) {
            x.lane(1, 2, 18 * (i + 2));
        }
        Checks.start(x, 1);
        return x;
    }

    /** "if the flipper is down, by its last lane, with v" */
    private static void flipperIsDown() {
        for (int lanes = 2; lanes <= 4; lanes++) {
            Tiltcourt x = flipper(lanes);
            x.tick(4);
            Checks.same("the last of " + lanes, x.left(0), (18 * (lanes + 1) + 10) / 11);
        }
    }

    /** "if it is up since fewer than 3 ticks, by the lane of this number, 0 to 2, modulo one less .., with 18" */
    private static void flipperIsUpBelowThree() {
        for (int lanes = 2; lanes <= 4; lanes++) {
            for (int up = 0; up <= 2; up++) {
                Tiltcourt x = flipper(lanes);
                x.tick(3 - up);
                x.press(0);
                x.tick(up + 1);
                Checks.same("up " + up + " with " + lanes + " lanes", x.left(0), up % (lanes - 1) + 2);
            }
        }
    }

    /** "if it is up longer, the ball rests there" */
    private static void flipperIsUpLonger() {
        Tiltcourt x = flipper(4);
        x.press(0);
        x.tick(3);
        Checks.same("not yet come", x.state(0), 'l');
        Checks.same("its event", x.tick(1), 1);
        Checks.same("up 3", x.state(0), 'r');
        Checks.same("at", x.at(0), 1);
        Checks.same("left", x.left(0), 0);
        Checks.same("no further event", x.tick(100), 0);
        Checks.same("still", x.state(0), 'r');
    }

    /** "until it is down at the end of a tick, and leaves by its last lane then, with 3" */
    private static void flipperDropsAtTheEndOfATick() {
        for (int lanes = 2; lanes <= 4; lanes++) {
            Tiltcourt x = flipper(lanes);
            x.press(0);
            x.tick(4);
            x.letGo(0);
            Checks.same("no tick yet", x.state(0), 'r');
            x.press(0);
            x.tick(1);
            Checks.same("up again when the tick ends", x.state(0), 'r');
            x.letGo(0);
            x.tick(1);
            Checks.same("down when the tick ends", x.state(0), 'l');
            Checks.same("the last of " + lanes + " with 3", x.left(0), 6 * (lanes + 1));
        }
    }

    /** "as the number 0 in that tick, and 1 more by each tick that ends": pressed anew it counts anew. */
    private static void flipperCountsFromThePress() {
        Tiltcourt x = flipper(4);
        x.press(0);
        x.tick(2);
        x.letGo(0);
        x.press(0);
        x.tick(2);
        Checks.same("the number 1", x.left(0), 3);
        Tiltcourt y = flipper(4);
        y.press(0);
        y.tick(3);
        y.letGo(0);
        y.tick(1);
        Checks.same("let go before the ball has come", y.left(0), 9);
    }

    private static void flipperOfTheOtherSide() {
        Tiltcourt x = Checks.table("p f1 d", 0, 1, 12, 1, 2, 18, 1, 2, 110);
        Checks.start(x, 1);
        x.press(0);
        x.tick(1);
        Checks.same("the side 1 is down", x.left(0), 10);
        Tiltcourt y = Checks.table("p f1 d", 0, 1, 12, 1, 2, 18, 1, 2, 110);
        Checks.start(y, 1);
        y.press(0);
        y.press(1);
        y.letGo(0);
        y.tick(1);
        Checks.same("the side 1 is up", y.left(0), 1);
    }

    /** "until it is let go, the machine tilts or the game is over" */
    private static void flipperDropsOnATilt() {
        Tiltcourt x = flipper(2);
        x.press(0);
        x.tick(4);
        for (int i = 0; i < 6; i++) {
            x.push();
        }
        Checks.same("rests", x.state(0), 'r');
        x.tick(1);
        Checks.same("leaves", x.state(0), 'l');
        Checks.same("with 3", x.left(0), 18);
    }

    /** "Returns true if they come up by that; if they are up, they go on as they are." */
    private static void pressedTwice() {
        Tiltcourt x = flipper(4);
        Checks.same("press", x.press(0), true);
        Checks.same("at once again", x.press(0), false);
        x.tick(2);
        Checks.same("up 2", x.press(0), false);
        x.tick(1);
        Checks.same("up 3", x.press(0), false);
        x.tick(1);
        Checks.same("went on as they were", x.state(0), 'r');
        Checks.same("the other side", x.press(1), true);
    }

    /** "Returns true if they were up." */
    private static void letGoTwice() {
        Tiltcourt x = flipper(2);
        Checks.same("down at first", x.letGo(0), false);
        x.press(0);
        Checks.same("the other side", x.letGo(1), false);
        Checks.same("up", x.letGo(0), true);
        Checks.same("down again", x.letGo(0), false);
    }

    /** "and flippers are down" until the ball has ended */
    private static void downInATilt() {
        Tiltcourt x = flipper(2);
        x.press(0);
        x.press(1);
        for (int i = 0; i < 6; i++) {
            x.push();
        }
        Checks.same("the side 0 is down", x.letGo(0), false);
        Checks.same("the side 1 is down", x.letGo(1), false);
        Checks.same("a press", x.press(0), false);
        x.tick(4);
        Checks.same("by the last lane, with 11", x.left(0), 5);
        x.tick(5);
        Checks.same("the next ball", x.ball(), 2);
        Checks.same("a press", x.press(0), true);
    }

    /** "or the game is over" */
    private static void downAfterAGame() {
        Tiltcourt x = Checks.table("p d", 0, 1, 12);
        Checks.start(x, 1);
        x.press(0);
        x.tick(5);
        Checks.same("as it was for all three balls", x.press(0), false);
        x.tick(1);
        Checks.same("the game is over", x.player(), -1);
        Checks.start(x, 1);
        Checks.same("down", x.letGo(0), false);
    }

    /** "if there is no such side", which comes before "if no game is on" */
    private static void wrongSides() {
        Tiltcourt x = Checks.table("p d", 0, 1, 12);
        refuseSides(x);
        Checks.fails("press without a game", Checks.STATE, () -> x.press(0));
        Checks.fails("letGo without a game", Checks.STATE, () -> x.letGo(1));
        Checks.start(x, 1);
        refuseSides(x);
        Checks.same("the side 1", x.press(1), true);
        x.tick(100);
        refuseSides(x);
        Checks.fails("press after a game", Checks.STATE, () -> x.press(1));
        Checks.fails("letGo after a game", Checks.STATE, () -> x.letGo(0));
    }

    private static void refuseSides(Tiltcourt x) {
        for (int far : FAR) {
            Checks.fails("press " + far, Checks.INDEX, () -> x.press(far));
            Checks.fails("letGo " + far, Checks.INDEX, () -> x.letGo(far));
        }
        Checks.fails("press 2", Checks.INDEX, () -> x.press(2));
        Checks.fails("letGo 2", Checks.INDEX, () -> x.letGo(2));
    }

    /** "it rests until it is kicked, and leaves by the lane 0 then, with 8" */
    private static void holeHoldsUntilKicked() {
        Tiltcourt x = Checks.table("p h d", 0, 1, 12, 1, 2, 65, 1, 2, 8, 1, 2, 8);
        Checks.rule(x, 0, 's', 1, "T99");
        Checks.rule(x, 0, 't', 0, "k1");
        Checks.start(x, 1);
        x.tick(99);
        Checks.same("rests", x.state(0), 'r');
        x.tick(1);
        Checks.same("is kicked", x.state(0), 'l');
        Checks.same("by the lane 0 with 8", x.left(0), 9);
    }

    private static void holeHoldsAll() {
        Tiltcourt x = Checks.table("p h d", 0, 1, 12, 1, 2, 65);
        Checks.rule(x, 0, 's', 1, "L0");
        Checks.start(x, 1);
        Checks.same("each ball that comes is an event", x.tick(9), 4);
        for (int i = 0; i < 4; i++) {
            Checks.same("rests", x.state(i), 'r');
            Checks.same("at", x.at(i), 1);
        }
        Checks.same("isConsistent", x.isConsistent(), true);
    }

    /** "'d': it is home", which is an event of the drain */
    private static void drainIsHome() {
        Tiltcourt x = Checks.table("p h d d", 0, 1, 12, 1, 3, 16);
        Checks.ruleIf(x, "0=0", 0, 's', 1, "k1", "L0", "+1");
        Checks.rule(x, 0, 's', 3, "p1");
        Checks.start(x, 1);
        x.tick(2);
        Checks.same("in the lane to the drain", x.at(0), 3);
        x.tick(1);
        Checks.same("home", x.state(0), '-');
        Checks.same("its event", x.points(0), 10);
        Checks.same("the ball 1 rests", x.state(1), 'r');
        Checks.same("the ball goes on", x.ball(), 1);
    }

    /** "Each use makes it 12 more, each tick 1 less": for a bumper and for a hole */
    private static void heatByUses() {
        Tiltcourt x = Checks.table("p b h d", 0, 1, 12, 1, 2, 15, 2, 3, 200);
        Checks.rule(x, 0, 's', 2, "T3");
        Checks.rule(x, 0, 't', 0, "k2", "k2");
        Checks.start(x, 1);
        Checks.same("no use yet", x.heat(1), 0);
        x.tick(1);
        Checks.same("the bumper's use", x.heat(1), 12);
        x.tick(1);
        Checks.same("1 less", x.heat(1), 11);
        Checks.same("coming is no use of a hole", x.heat(2), 0);
        x.tick(3);
        Checks.same("the hole's use, and a kick without a ball, which is none", x.heat(2), 12);
        x.tick(1);
        Checks.same("1 less", x.heat(2), 11);
    }

    /** "at least 0" */
    private static void heatAtLeastZero() {
        Tiltcourt x = Checks.table("p b d", 0, 1, 12, 1, 2, 200);
        Checks.start(x, 1);
        x.tick(12);
        Checks.same("heat of 1", x.heat(1), 1);
        x.tick(1);
        Checks.same("heat of 0", x.heat(1), 0);
        x.tick(1);
        Checks.same("at least 0", x.heat(1), 0);
    }

    /** "locked from when it has more than 40": by 40 it is used once more, by 41 not. */
    private static void lockedAboveForty() {
        Tiltcourt forty = Checks.table("p b d", 0, 1, 12, 1, 1, 37);
        Checks.start(forty, 1);
        forty.tick(9);
        Checks.same("heat of 40", forty.heat(1), 40);
        forty.tick(2);
        Checks.same("is used", forty.heat(1), 50);
        Tiltcourt more = Checks.table("p b d", 0, 1, 12, 1, 1, 80);
        Checks.start(more, 1);
        more.tick(20);
        Checks.same("heat of 41", more.heat(1), 41);
        more.tick(4);
        Checks.same("is locked", more.heat(1), 37);
    }

    /** "until it has less than 15": it is free in the tick in which coils cool to 14. */
    private static void lockedUntilFourteen() {
        Tiltcourt x = Checks.table("p b d", 0, 1, 12, 1, 1, 1);
        Checks.start(x, 1);
        x.tick(4);
        Checks.same("locked", x.heat(1), 45);
        x.tick(30);
        Checks.same("heat of 15", x.heat(1), 15);
        x.tick(1);
        Checks.same("14 and 12", x.heat(1), 26);
        x.tick(1);
        Checks.same("free, not only once", x.heat(1), 37);
    }

    /** "a locked bumper gives no speed .. and neither is a use": it leaves with v by the lane v modulo their number. */
    private static void lockedBumperGivesNoSpeed() {
        Tiltcourt x = Checks.table("p b d", 0, 1, 12, 1, 1, 1, 1, 2, 190, 1, 1, 1);
        Checks.start(x, 1);
        x.tick(4);
        Checks.same("locked by the 4th use, which gave 20", x.heat(1), 45);
        Checks.same("its event", x.tick(1), 1);
        Checks.same("no use", x.heat(1), 44);
        Checks.same("19 is 1 modulo 3", x.at(0), 2);
        Checks.same("with 19", x.left(0), 10);
    }

    /** "a locked hole is not kicked": it kicks the ball to itself, locked by its 4th kick. */
    private static void lockedHoleIsNotKicked() {
        Tiltcourt x = Checks.table("p h d", 0, 1, 12, 1, 1, 8);
        Checks.rule(x, 0, 's', 1, "k1", "T29");
        Checks.rule(x, 0, 't', 0, "k1", "T1");
        Checks.start(x, 1);
        x.tick(4);
        Checks.same("45", x.heat(1), 45);
        x.tick(1);
        Checks.same("not kicked", x.state(0), 'r');
        Checks.same("no use", x.heat(1), 44);
        x.tick(29);
        Checks.same("not kicked by 15", x.state(0), 'r');
        Checks.same("no use", x.heat(1), 15);
        x.tick(1);
        Checks.same("kicked by 14", x.state(0), 'l');
        Checks.same("its use", x.heat(1), 26);
    }

    /** "heat, 0 at first": no ball and no game makes it 0 again, only ticks do. */
    private static void heatStaysOverBallsAndGames() {
        Tiltcourt x = Checks.table("p b d", 0, 1, 12, 1, 2, 15);
        Checks.start(x, 1);
        x.tick(4);
        Checks.same("the next ball", x.ball(), 2);
        Checks.same("its heat", x.heat(1), 22 - 1);
        x.tick(100);
        Checks.same("over", x.player(), -1);
        int heat = x.heat(1);
        Checks.same("hot", heat > 12, true);
        Checks.start(x, 1);
        Checks.same("the next game", x.heat(1), heat);
        x.tick(1);
        Checks.same("a locked one stays locked", x.heat(1), heat - 1);
    }

    /** "Returns the heat, 0 without a coil." */
    private static void heatOfNoCoil() {
        Tiltcourt x = Checks.table("p p r1 g f d",
                0, 1, 1, 1, 2, 1, 2, 3, 1, 2, 3, 1, 3, 4, 1, 3, 4, 1, 4, 5, 1, 4, 5, 1);
        Checks.start(x, 1);
        Checks.same("a ball has come to each", x.tick(5), 5);
        for (int i = 0; i < 6; i++) {
            Checks.same("heat of " + i, x.heat(i), 0);
        }
        for (int far : FAR) {
            Checks.fails("heat of " + far, Checks.INDEX, () -> x.heat(far));
        }
        Checks.fails("heat of 6", Checks.INDEX, () -> x.heat(6));
    }
}
