/** The edges of 'Actions', of timers, and of how many events are given, a method for each sentence. */
public final class EdgeActionTest {
    public static void main(String[] args) {
        pointsTimesTheMultiplier();
        multiplierOneToNine();
        pointsAreLong();
        variableOfTheCondition();
        variableZeroWithout();
        numberSetOrGreater();
        lampsZeroToFifteen();
        litTwice();
        numbersOfDifferentThings();
        kicksNothing();
        kicksTheLowest();
        kicksOneOnly();
        opensTwice();
        beginsIfItDoesNotRun();
        endsOneThatDoesNotRun();
        eachModeBegins();
        endsWithItsTimer();
        timerOfOneTick();
        timerOfManyTicks();
        timerSetAgain();
        timerRunsWhileTheModeRuns();
        timerOfTheRulesMode();
        timerComesOnce();
        timersByRisingModes();
        timersBeforeBalls();
        bonusOneToMost();
        oneExtraBallForABall();
        launchesIfOneIsHome();
        beginningBehindAllThatWait();
        beginningsInTheirOrder();
        twentyInATick();
        timersCountAmongTwenty();
        noneLeftForTheNextTick();
        mainModeDoesNotBegin();
        Checks.end("EdgeActionTest");
    }

    /** A ball that comes to the place 1 in each tick. */
    private static Tiltcourt circle() {
        return Checks.table("p p d", 0, 1, 12, 1, 1, 1);
    }

    /** "n times 10 points, times the multiplier": 1 and 999, 1 and 9 */
    private static void pointsTimesTheMultiplier() {
        Tiltcourt x = circle();
        Checks.ruleIf(x, "0=0", 0, 's', 1, "p1", "+1");
        Checks.ruleIf(x, "0=2", 0, 's', 1, "p999", "m9", "+1");
        Checks.ruleIf(x, "0=4", 0, 's', 1, "p1", "+1");
        Checks.ruleIf(x, "0=6", 0, 's', 1, "p999", "+1");
        Checks.rule(x, 0, 's', 1, "+1");
        Checks.start(x, 1);
        long[] due = {10, 10 + 9990, 10000 + 90, 10090 + 89910};
        for (long points : due) {
            x.tick(1);
            Checks.same("points", x.points(0), points);
        }
    }

    /** "the multiplier becomes n, 1 to 9": not times the one before */
    private static void multiplierOneToNine() {
        for (int n = 1; n <= 9; n++) {
            Tiltcourt x = circle();
            Checks.rule(x, 0, 's', 1, "m7", "m" + n, "p1");
            Checks.start(x, 1);
            x.tick(1);
            Checks.same("times " + n, x.points(0), 10 * n);
        }
    }

    /** Points go on above what an int holds. */
    private static void pointsAreLong() {
        Tiltcourt x = circle();
        Checks.rule(x, 0, 's', 1, "m9", "p999", "p999", "p999");
        for (int i = 1; i < 24; i++) {
            Checks.rule(x, 0, 's', 1, "p999", "p999", "p999", "p999");
        }
        Checks.start(x, 1);
        for (int i = 1; i <= 400; i++) {
            x.tick(1);
        }
        Checks.same("points", x.points(0), 400L * 95 * 9990 * 9);
        Checks.same("mean", x.meanPoints(), (double) (400L * 95 * 9990 * 9));
        Checks.same("isConsistent", x.isConsistent(), true);
    }

    /** "the variable of the rule's condition" */
    private static void variableOfTheCondition() {
        for (int variable = 0; variable < 6; variable++) {
            Tiltcourt x = circle();
            Checks.ruleIf(x, variable + "=0", 0, 's', 1, "=7");
            Checks.ruleIf(x, variable + "=7", 0, 's', 1, "+-9");
            Checks.start(x, 1);
            x.tick(1);
            for (int i = 0; i < 6; i++) {
                Checks.same("variable " + i + " by " + variable, x.variable(0, i), i == variable ? -2 : 0);
            }
        }
    }

    /** "or 0 without one" */
    private static void variableZeroWithout() {
        Tiltcourt x = circle();
        Checks.ruleIf(x, "3=0", 0, 's', 1, "+1");
        Checks.rule(x, 0, 's', 1, "=4", "+1");
        Checks.start(x, 1);
        x.tick(1);
        Checks.same("variable 0", x.variable(0, 0), 5);
        Checks.same("variable 3", x.variable(0, 3), 1);
    }

    /** "becomes n, or n greater": -99 and 99 */
    private static void numberSetOrGreater() {
        Tiltcourt x = circle();
        Checks.rule(x, 0, 's', 1, "=99", "+99", "+-99", "+-99");
        Checks.ruleIf(x, "1=0", 0, 's', 1, "=-99", "+-99");
        Checks.ruleIf(x, "2=0", 0, 's', 1, "+0", "=0");
        Checks.start(x, 1);
        x.tick(1);
        Checks.same("variable 0", x.variable(0, 0), 0);
        Checks.same("variable 1", x.variable(0, 1), -198);
        Checks.same("variable 2", x.variable(0, 2), 0);
        x.tick(1);
        Checks.same("set again", x.variable(0, 0), 0);
    }

    /** "lamp n, 0 to 15, is lit or not", "Returns the lamps, as bits." */
    private static void lampsZeroToFifteen() {
        for (int n = 0; n < 16; n++) {
            Tiltcourt x = circle();
            Checks.rule(x, 0, 's', 1, "l0", "l15", "l7", "l" + n);
            Checks.ruleIf(x, "0=1", 0, 's', 1, "o" + n);
            Checks.rule(x, 0, 's', 1, "+1");
            Checks.start(x, 1);
            x.tick(1);
            int all = 1 | 1 << 15 | 1 << 7 | 1 << n;
            Checks.same("lit with " + n, x.lamps(0), all);
            x.tick(1);
            Checks.same("without " + n, x.lamps(0), all & ~(1 << n));
        }
    }

    private static void litTwice() {
        Tiltcourt x = circle();
        Checks.rule(x, 0, 's', 1, "l4", "l4", "o5", "o5");
        Checks.start(x, 1);
        x.tick(3);
        Checks.same("lamps", x.lamps(0), 16);
    }

    /** A lamp, a mode or a number of points that is also the number of a hole moves no ball in it. */
    private static void numbersOfDifferentThings() {
        for (String action : "l1 o1 p1 m1 =1 +1 B1 T1 S1 X1".split(" ")) {
            Tiltcourt x = Checks.table("p h d", 0, 1, 12, 1, 2, 200);
            Checks.rule(x, 0, 's', 1, action);
            Checks.start(x, 1);
            x.tick(2);
            Checks.same("still rests after " + action, x.state(0), 'r');
            Checks.same("no use after " + action, x.heat(1), 0);
        }
    }

    /** "if a ball rests there": no use of its coil without one, nor while it is still in the lane to it. */
    private static void kicksNothing() {
        Tiltcourt x = Checks.table("p p h d", 0, 1, 12, 1, 2, 22, 2, 3, 200);
        Checks.rule(x, 0, 's', 1, "k2");
        Checks.start(x, 1);
        x.tick(1);
        Checks.same("no use", x.heat(2), 0);
        Checks.same("in its lane", x.left(0), 2);
        x.tick(2);
        Checks.same("rests", x.state(0), 'r');
        Checks.same("no use", x.heat(2), 0);
    }

    /** "the lowest one of several" */
    private static void kicksTheLowest() {
        Tiltcourt x = Checks.table("p h d", 0, 1, 12, 1, 2, 200);
        Checks.ruleIf(x, "0<3", 0, 's', 1, "L0", "+1");
        Checks.ruleIf(x, "0=3", 0, 's', 1, "T5");
        Checks.rule(x, 0, 't', 0, "k1", "T2");
        Checks.start(x, 1);
        x.tick(4);
        for (int i = 0; i < 4; i++) {
            Checks.same("all rest", x.state(i), 'r');
        }
        // the last event set the timer in the tick 4
        x.tick(5);
        for (int kicked = 0; kicked < 4; kicked++) {
            for (int i = 0; i < 4; i++) {
                Checks.same("ball " + i + " by kick " + kicked, x.state(i), i <= kicked ? 'l' : 'r');
            }
            x.tick(2);
        }
    }

    /** One kick moves one ball; the others rest. */
    private static void kicksOneOnly() {
        Tiltcourt x = Checks.table("p h d", 0, 1, 12, 1, 2, 200);
        Checks.ruleIf(x, "0<2", 0, 's', 1, "L0", "+1");
        Checks.ruleIf(x, "0=2", 0, 's', 1, "T5");
        Checks.rule(x, 0, 't', 0, "k1", "k1");
        Checks.start(x, 1);
        x.tick(8);
        Checks.same("the first kick", x.state(0), 'l');
        Checks.same("the second kick", x.state(1), 'l');
        Checks.same("two uses", x.heat(1), 24);
        Checks.same("no third", x.state(2), 'r');
    }

    /** "the gate n is opened or closed": twice is as once */
    private static void opensTwice() {
        Tiltcourt x = Checks.table("p g g d", 0, 1, 12, 1, 3, 200, 1, 1, 1, 2, 3, 1, 2, 3, 1);
        Checks.ruleIf(x, "0=1", 0, 's', 1, "g1", "g1", "c1", "g2");
        Checks.ruleIf(x, "0=2", 0, 's', 1, "g1", "g1", "c2", "c2");
        Checks.rule(x, 0, 's', 1, "+1");
        Checks.start(x, 1);
        x.tick(3);
        Checks.same("closed", x.at(0), 1);
        x.tick(1);
        Checks.same("open", x.at(0), 3);
    }

    /** "the mode n, 1 to 5, begins, if it does not run" */
    private static void beginsIfItDoesNotRun() {
        Tiltcourt x = circle();
        Checks.rule(x, 0, 's', 1, "S5", "S5");
        Checks.rule(x, 5, 'b', 0, "p1");
        Checks.start(x, 1);
        x.tick(1);
        Checks.same("once", x.points(0), 10);
        x.tick(1);
        Checks.same("it runs already", x.points(0), 10);
    }

    private static void endsOneThatDoesNotRun() {
        Tiltcourt x = circle();
        Checks.rule(x, 0, 's', 1, "X1", "X5", "p1");
        Checks.start(x, 1);
        x.tick(1);
        Checks.same("does not run", x.runs(1) || x.runs(5), false);
        Checks.same("further actions are done", x.points(0), 10);
        Checks.same("0 runs", x.runs(0), true);
    }

    private static void eachModeBegins() {
        for (int n = 1; n <= 5; n++) {
            Tiltcourt x = circle();
            Checks.ruleIf(x, "0=0", 0, 's', 1, "S" + n, "+1");
            Checks.ruleIf(x, "0=2", 0, 's', 1, "X" + n, "+1");
            Checks.ruleIf(x, "0=1", 0, 's', 1, "+1");
            Checks.start(x, 1);
            for (int turn = 0; turn < 2; turn++) {
                x.tick(1);
                for (int i = 1; i <= 5; i++) {
                    Checks.same("runs " + i + " by " + n, x.runs(i), i == n && turn == 0);
                }
            }
        }
    }

    /** "or ends, with its timer": the timer is gone when the mode begins again. */
    private static void endsWithItsTimer() {
        Tiltcourt x = circle();
        Checks.ruleIf(x, "0=0", 0, 's', 1, "S1");
        Checks.ruleIf(x, "0=2", 0, 's', 1, "X1", "S1");
        Checks.ruleIf(x, "0=1", 1, 's', 1, "T9");
        Checks.rule(x, 1, 't', 0, "p1");
        Checks.rule(x, 0, 's', 1, "+1");
        Checks.start(x, 1);
        x.tick(3);
        Checks.same("begun again", x.runs(1), true);
        x.tick(30);
        Checks.same("no timer", x.points(0), 0);
    }

    /** "is n ticks": 1 runs out in the next tick. */
    private static void timerOfOneTick() {
        Tiltcourt x = circle();
        Checks.ruleIf(x, "0=0", 0, 's', 1, "T1", "+1");
        Checks.rule(x, 0, 't', 0, "p1");
        Checks.start(x, 1);
        x.tick(1);
        Checks.same("not in its tick", x.points(0), 0);
        x.tick(1);
        Checks.same("in the next", x.points(0), 10);
    }

    private static void timerOfManyTicks() {
        Tiltcourt x = circle();
        Checks.ruleIf(x, "0=0", 0, 's', 1, "T999", "+1");
        Checks.rule(x, 0, 't', 0, "p1");
        Checks.start(x, 1);
        Checks.pass(x, 900);
        x.tick(99);
        Checks.same("998 ticks later", x.points(0), 0);
        x.tick(1);
        Checks.same("999 ticks later", x.points(0), 10);
    }

    /** "the timer of the rule's mode is n ticks", whatever it was */
    private static void timerSetAgain() {
        Tiltcourt x = circle();
        Checks.ruleIf(x, "0=0", 0, 's', 1, "T9", "T2");
        Checks.ruleIf(x, "0=1", 0, 's', 1, "T5");
        Checks.rule(x, 0, 't', 0, "p1");
        Checks.rule(x, 0, 's', 1, "+1");
        Checks.start(x, 1);
        x.tick(6);
        Checks.same("set anew before it ran out", x.points(0), 0);
        x.tick(1);
        Checks.same("5 ticks later", x.points(0), 10);
        x.tick(20);
        Checks.same("once", x.points(0), 10);
    }

    /** "which run while the mode runs": set in a mode that has ended, it waits until the mode begins. */
    private static void timerRunsWhileTheModeRuns() {
        Tiltcourt x = circle();
        Checks.rule(x, 0, 's', 1, "+1");
        Checks.ruleIf(x, "0=1", 0, 's', 1, "S1");
        Checks.ruleIf(x, "0=2", 1, 's', 1, "X1", "T3");
        Checks.ruleIf(x, "0=12", 0, 's', 1, "S1");
        Checks.rule(x, 1, 't', 0, "p1");
        Checks.start(x, 1);
        x.tick(2);
        Checks.same("ended", x.runs(1), false);
        x.tick(10);
        Checks.same("begun again", x.runs(1), true);
        Checks.same("it waited", x.points(0), 0);
        x.tick(2);
        Checks.same("2 ticks later", x.points(0), 0);
        x.tick(1);
        Checks.same("3 ticks later", x.points(0), 10);
    }

    /** "the timer of the rule's mode": each has its own. */
    private static void timerOfTheRulesMode() {
        Tiltcourt x = circle();
        Checks.ruleIf(x, "0=0", 0, 's', 1, "S1", "S2", "T5", "+1");
        Checks.rule(x, 1, 'b', 0, "T3");
        Checks.rule(x, 2, 'b', 0, "T7");
        for (int mode = 0; mode < 3; mode++) {
            Checks.rule(x, mode, 't', 0, "p" + (mode == 0 ? 1 : mode == 1 ? 10 : 100));
        }
        Checks.start(x, 1);
        long[] due = {0, 0, 0, 100, 100, 110, 110, 1110, 1110};
        for (long points : due) {
            x.tick(1);
            Checks.same("points", x.points(0), points);
        }
    }

    /** "one that comes to 0 puts a 't'": not one that is 0 already */
    private static void timerComesOnce() {
        Tiltcourt x = circle();
        Checks.ruleIf(x, "0=0", 0, 's', 1, "S1", "+1");
        Checks.rule(x, 0, 't', 0, "p1");
        Checks.rule(x, 1, 't', 0, "p1");
        Checks.start(x, 1);
        x.tick(50);
        Checks.same("without a timer", x.points(0), 0);
    }

    /** "Timers of modes that run, by rising modes": whatever their ranks are */
    private static void timersByRisingModes() {
        Tiltcourt x = circle();
        Checks.ruleIf(x, "0=0", 0, 's', 1, "S1", "S2", "T4", "+1");
        Checks.rule(x, 1, 'b', 0, "T4");
        Checks.rule(x, 2, 'b', 0, "T4");
        Checks.ruleIf(x, "4=0", 0, 't', 0, "p1", "+1");
        Checks.ruleIf(x, "4=1", 1, 't', 0, "p10", "+1");
        Checks.ruleIf(x, "4=2", 2, 't', 0, "p100", "+1");
        x.rank(1, 3);
        x.rank(2, 9);
        Checks.start(x, 1);
        x.tick(5);
        Checks.same("0, 1, 2", x.points(0), 1110);
    }

    /** Timers come before balls: the 't' is given before the event of the place in the same tick. */
    private static void timersBeforeBalls() {
        Tiltcourt x = circle();
        Checks.ruleIf(x, "0=0", 0, 's', 1, "T1", "+1");
        Checks.rule(x, 0, 't', 0, "=5");
        Checks.ruleIf(x, "0=5", 0, 's', 1, "p1", "+1");
        Checks.start(x, 1);
        x.tick(2);
        Checks.same("by the variable that the timer left", x.points(0), 10);
    }

    /** "n times 100 bonus": 1 and 999 */
    private static void bonusOneToMost() {
        Tiltcourt x = circle();
        Checks.ruleIf(x, "0=0", 0, 's', 1, "B1", "m9");
        Checks.ruleIf(x, "0=1", 0, 's', 1, "B999");
        Checks.rule(x, 0, 's', 1, "+1");
        Checks.start(x, 1);
        Checks.same("at first", x.bonus(), 0);
        x.tick(1);
        Checks.same("1", x.bonus(), 100);
        x.tick(1);
        Checks.same("and 999, without the multiplier", x.bonus(), 100000);
        Checks.same("no points yet", x.points(0), 0);
    }

    /** "an extra ball, if none was given for this ball": a second one is none, nor when the ball was saved. */
    private static void oneExtraBallForABall() {
        Tiltcourt x = Checks.table("p d", 0, 1, 12);
        Checks.ruleIf(x, "0<2", 0, 's', 1, "E0", "E0", "+1");
        Checks.start(x, 1);
        x.tick(2);
        Checks.same("the extra ball", x.ball(), 1);
        Checks.same("one has ended", x.audit(1), 1);
        x.tick(2);
        Checks.same("then the next", x.ball(), 2);
        Checks.same("two have ended", x.audit(1), 2);
    }

    /** "a ball is launched, if one is home": the fourth is the last. */
    private static void launchesIfOneIsHome() {
        Tiltcourt x = Checks.table("p h d", 0, 1, 12, 1, 2, 8);
        Checks.rule(x, 0, 's', 1, "L0", "L0", "L0", "L0");
        Checks.start(x, 1);
        x.tick(1);
        for (int i = 1; i < 4; i++) {
            Checks.same("launched", x.state(i), 'l');
        }
        x.tick(1);
        for (int i = 0; i < 4; i++) {
            Checks.same("no further one", x.state(i), 'r');
        }
    }

    /** "A mode that begins puts a 'b' behind all events that wait." */
    private static void beginningBehindAllThatWait() {
        Tiltcourt x = Checks.table("p h p d", 0, 1, 12, 1, 2, 8, 2, 2, 1);
        Checks.ruleIf(x, "0=0", 0, 's', 1, "L0", "k1", "T1", "+1");
        Checks.rule(x, 0, 't', 0, "S1");
        Checks.ruleIf(x, "2=0", 0, 's', 2, "p10", "+1");
        Checks.ruleIf(x, "2=1", 0, 's', 1, "p100", "+1");
        Checks.ruleIf(x, "2=2", 1, 'b', 0, "p500", "+1");
        Checks.start(x, 1);
        x.tick(1);
        Checks.same("none yet", x.points(0), 0);
        Checks.same("both come in the tick of the timer", x.tick(1), 2);
        Checks.same("2, 1, then the beginning", x.points(0), 6100);
    }

    private static void beginningsInTheirOrder() {
        Tiltcourt x = circle();
        Checks.rule(x, 0, 's', 1, "S3", "S1", "S2");
        Checks.ruleIf(x, "4=0", 3, 'b', 0, "p1", "+1");
        Checks.ruleIf(x, "4=1", 1, 'b', 0, "p10", "+1");
        Checks.ruleIf(x, "4=2", 2, 'b', 0, "p100", "+1");
        x.rank(2, 9);
        Checks.start(x, 1);
        x.tick(1);
        Checks.same("as they began", x.points(0), 1110);
    }

    /** "at most 20 in a tick, .. others are lost": 1 of a place and 19 beginnings. */
    private static void twentyInATick() {
        Tiltcourt x = circle();
        Checks.rule(x, 0, 's', 1, "S1");
        Checks.rule(x, 1, 'b', 0, "p1", "X1", "S1");
        Checks.start(x, 1);
        Checks.same("of places", x.tick(1), 1);
        Checks.same("19 beginnings", x.points(0), 190);
        Checks.same("the last one begun", x.runs(1), true);
    }

    /** "Events of all kinds": 2 timers, 1 place and 17 beginnings. */
    private static void timersCountAmongTwenty() {
        Tiltcourt x = circle();
        Checks.ruleIf(x, "0=0", 0, 's', 1, "S2", "T2", "+1");
        Checks.rule(x, 2, 'b', 0, "T2");
        Checks.rule(x, 0, 't', 0, "=7");
        Checks.ruleIf(x, "0=7", 0, 's', 1, "S1", "+1");
        Checks.rule(x, 1, 'b', 0, "p1", "X1", "S1");
        Checks.start(x, 1);
        x.tick(2);
        Checks.same("not yet", x.points(0), 0);
        Checks.same("of places", x.tick(1), 1);
        Checks.same("17 beginnings", x.points(0), 170);
    }

    /** Lost events do not come in the next tick; a lost beginning does not keep its mode from running. */
    private static void noneLeftForTheNextTick() {
        Tiltcourt x = circle();
        Checks.ruleIf(x, "0=0", 0, 's', 1, "S1", "+1");
        Checks.rule(x, 1, 'b', 0, "p1", "X1", "S1");
        Checks.ruleIf(x, "0=1", 1, 's', 1, "p100", "+1");
        Checks.start(x, 1);
        x.tick(1);
        Checks.same("19 beginnings", x.points(0), 190);
        x.tick(1);
        Checks.same("none in the next tick, but the event of the place", x.points(0), 1190);
        x.tick(1);
        Checks.same("none later", x.points(0), 1190);
    }

    /** The mode 0 runs from a game's beginning, and puts no 'b': all 20 events of the first tick are others. */
    private static void mainModeDoesNotBegin() {
        Tiltcourt x = circle();
        Checks.rule(x, 0, 'b', 0, "p500");
        Checks.rule(x, 0, 's', 1, "S1");
        Checks.rule(x, 1, 'b', 0, "p1", "X1", "S1");
        Checks.start(x, 1);
        Checks.same("points at the beginning", x.points(0), 0);
        x.tick(1);
        Checks.same("19 beginnings of 1", x.points(0), 190);
    }
}
