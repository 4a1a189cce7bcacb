/** The edges of 'A tick goes so', of saved balls, of the swing, and of the promises 15 and 16, a method for each. */
public final class EdgeTickTest {
    public static void main(String[] args) {
        oneToAHundredTicks();
        noTicksWithoutAGame();
        countsEventsOfPlaces();
        stopsWhenTheGameIsOver();
        coilsCoolFirst();
        coilsCoolInATilt();
        timersRunInATilt();
        ballsByRisingNumbers();
        eventsBeforeTheEnd();
        aLaunchBeforeTheEnd();
        twoHundredQuietTicks();
        quietCountsFromZero();
        otherEventsAreQuiet();
        eventsOfPlacesAreNot();
        quietFromALaunch();
        quietFromALaunchByARule();
        quietKicksAllHoles();
        quietKicksNoLockedHole();
        quietKicksInATilt();
        fewerThanSixtyTicks();
        sixtyTicksSinceTheBallBegan();
        savedOnce();
        savedOnceForEachBall();
        notSavedInATilt();
        savedBallKeepsAll();
        savedBallKeepsWarningsAndSwing();
        tenthTickSinceTheBallBegan();
        tenthTickOfTheNextBall();
        swingAtLeastZero();
        swingAboveFive();
        warningMakesItZero();
        thirdWarningTilts();
        pushedInATilt();
        pushedWithoutAGame();
        Checks.end("EdgeTickTest");
    }

    /** A ball rests in the hole 1 from the tick 1; kicked, it drains in the next tick. */
    private static Tiltcourt hole() {
        return Checks.table("p h d", 0, 1, 12, 1, 2, 8);
    }

    /** The same, and a timer set in the tick 1 kicks it so many ticks later. */
    private static Tiltcourt timedHole(int ticks) {
        Tiltcourt x = hole();
        Checks.rule(x, 0, 's', 1, "T" + ticks);
        Checks.rule(x, 0, 't', 0, "k1");
        return x;
    }

    private static void pushes(Tiltcourt x, String due) {
        for (int i = 0; i < due.length(); i++) {
            Checks.same("push " + i + " of " + due, x.push(), due.charAt(i));
        }
    }

    /** "the number of ticks, 1 to 100", which comes before "if no game is on" */
    private static void oneToAHundredTicks() {
        Tiltcourt x = Checks.table("p p d", 0, 1, 12, 1, 1, 1);
        for (int turn = 0; turn < 2; turn++) {
            for (int ticks : new int[] {0, -1, 101, Integer.MIN_VALUE, Integer.MAX_VALUE}) {
                Checks.fails("tick " + ticks, Checks.ARGUMENT, () -> x.tick(ticks));
            }
            if (turn == 0) {
                Checks.start(x, 1);
            }
        }
        Checks.same("1", x.tick(1), 1);
        Checks.same("100", x.tick(100), 100);
        Checks.same("99", x.tick(99), 99);
    }

    private static void noTicksWithoutAGame() {
        Tiltcourt x = Checks.table("p d", 0, 1, 12);
        Checks.fails("before a game", Checks.STATE, () -> x.tick(1));
        Checks.start(x, 1);
        x.tick(6);
        Checks.same("over", x.player(), -1);
        Checks.fails("after a game", Checks.STATE, () -> x.tick(1));
    }

    /** "how many events of places were given in these": no 't', no 'b', none of a switch that fails */
    private static void countsEventsOfPlaces() {
        Tiltcourt x = Checks.table("p p p d", 0, 1, 12, 1, 2, 1, 2, 1, 1);
        Checks.rule(x, 0, 's', 1, "T1", "X1", "S1");
        x.fail(2, true);
        Checks.start(x, 1);
        Checks.same("every other tick", x.tick(10), 5);
    }

    /** "it stops when the game is over": 6 ticks with an event each, and the next game begins anew. */
    private static void stopsWhenTheGameIsOver() {
        Tiltcourt x = Checks.table("p d", 0, 1, 12);
        x.coin(4);
        x.begin(1);
        Checks.same("6 of 100", x.tick(100), 6);
        Checks.same("over", x.player(), -1);
        Checks.same("balls", x.audit(1), 3);
        x.begin(1);
        Checks.same("the next game", x.ball(), 1);
        Checks.same("6 of 6", x.tick(6), 6);
        Checks.same("over", x.ball(), 0);
    }

    /** "Coils cool." comes first: a coil that is used in a tick is as hot as it became. */
    private static void coilsCoolFirst() {
        Tiltcourt x = Checks.table("p b h d", 0, 1, 12, 1, 2, 15, 2, 3, 200);
        Checks.rule(x, 0, 's', 2, "k2");
        Checks.start(x, 1);
        x.tick(1);
        Checks.same("a bumper", x.heat(1), 12);
        x.tick(1);
        Checks.same("a hole", x.heat(2), 12);
        x.tick(12);
        Checks.same("12 ticks later", x.heat(2), 0);
    }

    private static void coilsCoolInATilt() {
        Tiltcourt x = Checks.table("p b d", 0, 1, 12, 1, 2, 200);
        Checks.start(x, 1);
        x.tick(1);
        pushes(x, "-w-w-t");
        x.tick(5);
        Checks.same("5 ticks later", x.heat(1), 7);
    }

    /** Timers lose 1 also in a tilt: the one of the mode 0 runs out in the next ball, or in the tilt and is lost. */
    private static void timersRunInATilt() {
        for (int ticks = 28; ticks <= 31; ticks++) {
            Tiltcourt x = Checks.table("p p d", 0, 1, 12, 1, 2, 200);
            Checks.ruleIf(x, "0=0", 0, 's', 1, "T" + ticks, "+1");
            Checks.rule(x, 0, 't', 0, "p1");
            Checks.start(x, 1);
            x.tick(1);
            pushes(x, "-w-w-t");
            x.tick(19);
            Checks.same("the next ball", x.ball(), 2);
            Checks.same("it is not tilted", x.push(), '-');
            x.tick(ticks - 20);
            Checks.same("a tick before", x.points(0), 0);
            x.tick(1);
            Checks.same("so many ticks later", x.points(0), 10);
        }
        Tiltcourt lost = Checks.table("p p d", 0, 1, 12, 1, 2, 200);
        Checks.ruleIf(lost, "0=0", 0, 's', 1, "T5", "+1");
        Checks.rule(lost, 0, 't', 0, "p1");
        Checks.start(lost, 1);
        lost.tick(1);
        pushes(lost, "-w-w-t");
        lost.tick(100);
        Checks.same("run out in the tilt", lost.points(0), 0);
    }

    /** "Balls in lanes, by rising numbers": the ball 0 comes to 2, the ball 1 to 1, in the same tick. */
    private static void ballsByRisingNumbers() {
        Tiltcourt x = Checks.table("p h p d", 0, 1, 12, 1, 2, 8, 2, 2, 1);
        Checks.ruleIf(x, "0=0", 0, 's', 1, "L0", "k1", "+1");
        Checks.ruleIf(x, "2=0", 0, 's', 2, "p10", "+1");
        Checks.ruleIf(x, "2=1", 0, 's', 1, "p100", "+1");
        Checks.start(x, 1);
        x.tick(1);
        Checks.same("both", x.tick(1), 2);
        Checks.same("2 by the ball 0, then 1 by the ball 1", x.points(0), 1100);
    }

    /** "Then the end of a ball is looked at.": the bonus that the last event gave is paid. */
    private static void eventsBeforeTheEnd() {
        Tiltcourt x = Checks.table("p d", 0, 1, 12);
        Checks.ruleIf(x, "0=1", 0, 's', 1, "B5", "m3");
        Checks.rule(x, 0, 's', 1, "+1");
        Checks.start(x, 1);
        x.tick(1);
        Checks.same("saved", x.points(0), 0);
        x.tick(1);
        Checks.same("ended", x.points(0), 1500);
    }

    /** "Its end has come when all balls are home": not if a rule launches one as the last comes home. */
    private static void aLaunchBeforeTheEnd() {
        Tiltcourt x = Checks.table("p d", 0, 1, 12);
        Checks.ruleIf(x, "0<70", 0, 's', 1, "L0", "+1");
        Checks.start(x, 1);
        x.tick(70);
        Checks.same("no end", x.audit(1), 0);
        Checks.fails("none was saved", Checks.ARITHMETIC, () -> x.savedShare());
        x.tick(1);
        Checks.same("its end, too late to be saved", x.audit(1), 1);
    }

    /** "If no event of a place was given for 200 ticks in a row, all holes are kicked" */
    private static void twoHundredQuietTicks() {
        Tiltcourt x = hole();
        Checks.start(x, 1);
        Checks.same("its event", x.tick(1), 1);
        x.tick(100);
        x.tick(99);
        Checks.same("199", x.state(0), 'r');
        Checks.same("200", x.tick(1), 0);
        Checks.same("200", x.state(0), 'l');
        Checks.same("with 8", x.left(0), 1);
        Checks.same("which is a use", x.heat(1), 12);
    }

    /** "and this counts from 0": all switches fail, so that only kicks part the quiet ticks. */
    private static void quietCountsFromZero() {
        Tiltcourt x = Checks.table("p h d", 0, 1, 12, 1, 1, 8);
        x.fail(1, true);
        Checks.start(x, 1);
        for (int i = 0; i < 2; i++) {
            x.tick(100);
            x.tick(99);
            Checks.same("199 from the launch or the kick before", x.state(0), 'r');
            x.tick(1);
            Checks.same("200", x.state(0), 'l');
        }
    }

    /** "no event of a place": a timer that runs out in each tick, and a mode that begins, leave it quiet. */
    private static void otherEventsAreQuiet() {
        Tiltcourt x = hole();
        Checks.rule(x, 0, 's', 1, "T1");
        Checks.rule(x, 0, 't', 0, "T1", "X1", "S1");
        Checks.start(x, 1);
        x.tick(1);
        x.tick(100);
        x.tick(99);
        Checks.same("199", x.state(0), 'r');
        x.tick(1);
        Checks.same("200", x.state(0), 'l');
    }

    /** An event of any place, at any tick before the 200th, makes it count anew. */
    private static void eventsOfPlacesAreNot() {
        Tiltcourt x = Checks.table("p h p d", 0, 1, 12, 1, 2, 8, 2, 3, 200);
        Checks.ruleIf(x, "0=0", 0, 's', 1, "L0", "k1", "+1");
        Checks.start(x, 1);
        Checks.same("launch and kick", x.tick(1), 1);
        Checks.same("2 by the ball 0, 1 by the ball 1", x.tick(1), 2);
        Checks.same("in its lane", x.tick(28), 0);
        Checks.same("the drain in the tick 31", x.tick(1), 1);
        x.tick(100);
        x.tick(99);
        Checks.same("199 from it", x.state(1), 'r');
        x.tick(1);
        Checks.same("200 from it", x.state(1), 'l');
    }

    /** "as it does when a ball is launched": all switches fail; launched again in the tick 20. */
    private static void quietFromALaunch() {
        Tiltcourt x = Checks.table("p f h d", 0, 1, 12, 1, 2, 18, 1, 3, 200, 2, 2, 8);
        for (int i = 0; i < 4; i++) {
            x.fail(i, true);
        }
        Checks.start(x, 1);
        x.tick(20);
        Checks.same("launched again", x.at(0), 1);
        x.press(0);
        x.tick(100);
        x.tick(99);
        Checks.same("199", x.state(0), 'r');
        x.tick(1);
        Checks.same("200", x.state(0), 'l');
    }

    /** A rule of a timer launches a ball in a tick without an event of a place, which is the first quiet one. */
    private static void quietFromALaunchByARule() {
        Tiltcourt x = hole();
        Checks.ruleIf(x, "0=0", 0, 's', 1, "T99", "+1");
        Checks.rule(x, 0, 't', 0, "L0");
        Checks.start(x, 1);
        x.tick(1);
        x.fail(1, true);
        x.tick(99);
        Checks.same("launched in the tick 100", x.state(1), 'l');
        x.tick(100);
        x.tick(98);
        Checks.same("the tick 298", x.state(0), 'r');
        x.tick(1);
        Checks.same("the tick 299", x.state(0), 'l');
    }

    /** "all holes are kicked": each with a ball, the lowest one of several. */
    private static void quietKicksAllHoles() {
        Tiltcourt x = Checks.table("p h h d h", 0, 1, 12, 1, 2, 8, 2, 3, 8, 4, 3, 8);
        Checks.ruleIf(x, "0<2", 0, 's', 1, "L0", "k1", "+1");
        Checks.ruleIf(x, "0=2", 0, 's', 1, "L0", "+1");
        Checks.start(x, 1);
        Checks.same("the last two come in the tick 3", x.tick(3), 6);
        Checks.same("0 rests in 2", x.at(0), 2);
        Checks.same("1 rests in 2", x.at(1), 2);
        Checks.same("2 rests in 1", x.at(2), 1);
        Checks.same("3 rests in 1", x.at(3), 1);
        x.tick(100);
        x.tick(99);
        for (int i = 0; i < 4; i++) {
            Checks.same("199", x.state(i), 'r');
        }
        x.tick(1);
        for (int i = 0; i < 4; i++) {
            Checks.same("200", x.state(i), i % 2 == 0 ? 'l' : 'r');
        }
        Checks.same("one without a ball", x.heat(4), 0);
    }

    /** The hole is used by a timer in each tick until it is locked, just before the 200th quiet tick. */
    private static void quietKicksNoLockedHole() {
        for (int wait = 190; wait <= 192; wait++) {
            Tiltcourt x = Checks.table("p h d", 0, 1, 12, 1, 1, 8);
            Checks.ruleIf(x, "0=0", 0, 's', 1, "T" + wait, "+1");
            Checks.ruleIf(x, "0<5", 0, 't', 0, "k1", "T1", "+1");
            Checks.start(x, 1);
            x.tick(1);
            x.fail(1, true);
            x.tick(100);
            x.tick(99);
            Checks.same("rests", x.state(0), 'r');
            int heat = x.heat(1);
            Checks.same("locked", heat > 30, true);
            x.tick(1);
            Checks.same("the 200th", x.state(0), 'r');
            Checks.same("no use", x.heat(1), heat - 1);
        }
    }

    private static void quietKicksInATilt() {
        Tiltcourt x = hole();
        Checks.start(x, 1);
        x.tick(1);
        pushes(x, "-w-w-t");
        x.tick(100);
        x.tick(99);
        Checks.same("199", x.state(0), 'r');
        x.tick(1);
        Checks.same("200", x.state(0), 'l');
        x.tick(1);
        Checks.same("the ball has ended", x.ball(), 2);
    }

    /** "if fewer than 60 ticks went by since the ball began, this one counted" */
    private static void fewerThanSixtyTicks() {
        Tiltcourt x = timedHole(57);
        Checks.start(x, 1);
        x.tick(59);
        Checks.same("home in the tick 59: launched again", x.state(0), 'l');
        Checks.same("no ball has ended", x.audit(1), 0);
        Checks.same("saved", x.savedShare(), 1.0);
        Tiltcourt y = timedHole(58);
        Checks.start(y, 1);
        y.tick(60);
        Checks.same("home in the tick 60", y.audit(1), 1);
        Checks.same("not saved", y.savedShare(), 0.0);
    }

    /** Each ball counts its own ticks, from its beginning, and not from a save. */
    private static void sixtyTicksSinceTheBallBegan() {
        Tiltcourt x = timedHole(58);
        Checks.start(x, 1);
        x.tick(60);
        Checks.same("the next", x.ball(), 2);
        x.tick(60);
        Checks.same("again too late", x.ball(), 3);
        Checks.same("none was saved", x.savedShare(), 0.0);
        Tiltcourt y = Checks.table("p d", 0, 1, 12);
        Checks.start(y, 1);
        y.tick(2);
        Checks.same("the next", y.ball(), 2);
        y.tick(1);
        Checks.same("it is saved too", y.ball(), 2);
    }

    /** "it was not saved already" */
    private static void savedOnce() {
        Tiltcourt x = Checks.table("p d", 0, 1, 120);
        Checks.start(x, 1);
        x.tick(10);
        Checks.same("saved", x.left(0), 10);
        x.tick(9);
        Checks.same("the ball 1", x.ball(), 1);
        x.tick(1);
        Checks.same("not saved again", x.ball(), 2);
        Checks.same("ended", x.audit(1), 1);
    }

    private static void savedOnceForEachBall() {
        Tiltcourt x = Checks.table("p d", 0, 1, 12);
        Checks.ruleIf(x, "0<2", 0, 's', 1, "E0", "+1");
        Checks.start(x, 2);
        int balls = 0;
        for (int i = 0; i < 100 && x.player() >= 0; i++) {
            x.tick(1);
            Checks.same("every second tick ends a ball", x.audit(1), (i + 1) / 2);
            balls = i + 1;
        }
        Checks.same("6 balls and an extra ball for each, saved once each", balls, 16);
        Checks.same("share", x.savedShare(), 0.5);
    }

    /** "and it is not tilted" */
    private static void notSavedInATilt() {
        Tiltcourt x = Checks.table("p d", 0, 1, 24);
        Checks.start(x, 1);
        x.tick(1);
        pushes(x, "-w-w-t");
        x.tick(1);
        Checks.same("ended at once", x.ball(), 2);
        x.tick(2);
        Checks.same("the next is saved", x.ball(), 2);
    }

    /** A ball that is launched again begins not anew: bonus, multiplier, modes, timers and gates stay. */
    private static void savedBallKeepsAll() {
        Tiltcourt x = Checks.table("p g d", 0, 1, 12, 1, 2, 200, 1, 2, 11);
        Checks.ruleIf(x, "0=0", 0, 's', 2, "B2", "m4", "g1", "+1");
        Checks.ruleIf(x, "0=1", 0, 's', 2, "S3", "l9", "E0");
        Checks.ruleIf(x, "0=1", 3, 'b', 0, "T4", "+1");
        Checks.rule(x, 3, 't', 0, "p1");
        Checks.start(x, 1);
        x.press(1);
        x.tick(2);
        Checks.same("launched again", x.at(0), 1);
        Checks.same("bonus", x.bonus(), 200);
        Checks.same("lamps", x.lamps(0), 1 << 9);
        Checks.same("mode", x.runs(3), true);
        Checks.same("flippers", x.letGo(1), true);
        x.tick(1);
        Checks.same("the gate is open", x.left(0), 19);
        x.tick(3);
        Checks.same("the timer, by the multiplier", x.points(0), 40);
        x.tick(16);
        Checks.same("the bonus by the multiplier", x.points(0), 40 + 800);
        Checks.same("the extra ball", x.ball(), 1);
        Checks.same("ended", x.audit(1), 1);
    }

    private static void savedBallKeepsWarningsAndSwing() {
        Tiltcourt x = Checks.table("p d", 0, 1, 60);
        Checks.start(x, 1);
        pushes(x, "-w-");
        x.tick(5);
        Checks.same("saved", x.savedShare(), 1.0);
        pushes(x, "w-t");
    }

    /** "as the tick is the 10th, 20th and so on since the ball began": saved in the tick 2, it counts on. */
    private static void tenthTickSinceTheBallBegan() {
        for (int ticks = 0; ticks <= 35; ticks++) {
            Tiltcourt x = timedHole(57);
            Checks.start(x, 1);
            if (ticks > 0) {
                x.tick(ticks);
            }
            x.push();
            int to = ticks / 10 * 10 + 9 - ticks;
            if (to > 0) {
                x.tick(to);
            }
            Tiltcourt y = timedHole(57);
            Checks.start(y, 1);
            if (ticks > 0) {
                y.tick(ticks);
            }
            y.push();
            y.tick(to + 1);
            Checks.same("before a tenth tick, pushed in " + ticks, x.push(), 'w');
            Checks.same("behind a tenth tick, pushed in " + ticks, y.push(), '-');
        }
        Tiltcourt saved = Checks.table("p g d", 0, 1, 12, 1, 2, 200, 1, 2, 11);
        Checks.rule(saved, 0, 's', 2, "g1");
        Checks.start(saved, 1);
        saved.tick(2);
        Checks.same("saved", saved.savedShare(), 1.0);
        saved.push();
        saved.tick(8);
        Checks.same("the tick 10 since the ball began", saved.push(), '-');
    }

    private static void tenthTickOfTheNextBall() {
        for (int ticks = 9; ticks <= 10; ticks++) {
            Tiltcourt x = Checks.table("p d", 0, 1, 144);
            Checks.start(x, 1);
            x.tick(24);
            Checks.same("the next ball", x.ball(), 2);
            x.push();
            x.tick(ticks);
            Checks.same("its tick " + ticks, x.push(), ticks == 9 ? 'w' : '-');
        }
    }

    /** "1 less, at least 0": after 3 tenths and after 5 it is the same. */
    private static void swingAtLeastZero() {
        for (int ticks = 30; ticks <= 50; ticks += 10) {
            Tiltcourt x = timedHole(57);
            Checks.start(x, 1);
            x.push();
            x.tick(ticks);
            pushes(x, "-w");
        }
    }

    /** "comes above 5": 2 and 3 is not, 3 and 3 is. */
    private static void swingAboveFive() {
        Tiltcourt x = timedHole(57);
        Checks.start(x, 1);
        pushes(x, "-");
        x.tick(10);
        pushes(x, "-");
        x.tick(10);
        Checks.same("4 and 3", x.push(), 'w');
        Tiltcourt y = timedHole(57);
        Checks.start(y, 1);
        Checks.same("3", y.push(), '-');
        Checks.same("3 and 3", y.push(), 'w');
    }

    /** "and makes it 0" */
    private static void warningMakesItZero() {
        Tiltcourt x = timedHole(57);
        Checks.start(x, 1);
        pushes(x, "-w-");
        x.tick(10);
        Checks.same("0 and 3, less 1, and 3", x.push(), '-');
    }

    /** "the third one tilts" */
    private static void thirdWarningTilts() {
        Tiltcourt x = timedHole(57);
        Checks.start(x, 1);
        pushes(x, "-w-w-");
        Checks.same("not yet", x.audit(2), 0);
        Checks.same("the third", x.push(), 't');
        Checks.same("a tilt", x.audit(2), 1);
    }

    /** "'t' it tilts, or is tilted": it is no further tilt. */
    private static void pushedInATilt() {
        Tiltcourt x = timedHole(57);
        Checks.start(x, 1);
        pushes(x, "-w-w-tttttttttttt");
        Checks.same("one tilt", x.audit(2), 1);
        x.tick(1);
        pushes(x, "ttt");
        Checks.same("one tilt", x.audit(2), 1);
    }

    private static void pushedWithoutAGame() {
        Tiltcourt x = Checks.table("p d", 0, 1, 12);
        Checks.fails("before a game", Checks.STATE, () -> x.push());
        Checks.start(x, 1);
        x.tick(6);
        Checks.fails("after a game", Checks.STATE, () -> x.push());
    }
}
