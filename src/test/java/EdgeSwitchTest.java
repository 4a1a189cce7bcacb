/** The edges of switches and diodes, and of the promises 5, 6 and 27, a method for each sentence. */
public final class EdgeSwitchTest {
    private static final String SIXTEEN = "hhhhhhhhhhhhhhhh";

    public static void main(String[] args) {
        eachComingIsAnEvent();
        closedWhileABallRests();
        aFailingSwitchDoesNeither();
        threeOfARectangle();
        twoAreTooFew();
        goodDiodesShowNothing();
        aFailingCorner();
        aFailingSwitchIsNotSeen();
        closedByItsOwnBall();
        aPassingBallClosesNothing();
        notSoInTheTickBefore();
        byRisingPlaces();
        asBallsHaveMoved();
        seenEventsAreEventsOfPlaces();
        placesToAsk();
        Checks.end("EdgeSwitchTest");
    }

    /**
     * A table whose holes get one ball each, all in the tick of that number: the ball 0 in the last one. A kick takes
     * one tick to the next hole; the place 0 can only be the last.
     */
    private static Tiltcourt chain(String kinds, int... holes) {
        Tiltcourt x = Checks.machine(kinds);
        int drain = kinds.indexOf('d');
        x.lane(0, holes[0], 12);
        for (int i = 0; i + 1 < holes.length; i++) {
            x.lane(holes[i], holes[i + 1], 8);
            String below = i + "<" + (holes.length - 1 - i);
            if (i == 0) {
                Checks.ruleIf(x, below, 0, 's', holes[i], "L0", "k" + holes[i], "+1");
            } else {
                Checks.ruleIf(x, below, 0, 's', holes[i], "k" + holes[i], "+1");
            }
        }
        for (int i = 1; i < kinds.length(); i++) {
            if (i != drain) {
                x.lane(i, drain, 80);
                x.lane(i, drain, 80);
            }
        }
        x.spoil(true);
        return x;
    }

    /** Sixteen holes, but for a drain that is none of these places. */
    private static Tiltcourt square(int seen, int... holes) {
        int drain = 15;
        for (int i = 15; i > 0; i--) {
            boolean isFree = i != seen;
            for (int hole : holes) {
                isFree = isFree && i != hole;
            }
            drain = isFree ? i : drain;
        }
        return chain(SIXTEEN.substring(0, drain) + "d" + SIXTEEN.substring(drain + 1), holes);
    }

    /** "When a ball comes to a place, its switch closes, which is an event of this place" */
    private static void eachComingIsAnEvent() {
        Tiltcourt x = Checks.table("p p h d", 0, 1, 12, 1, 2, 11, 2, 3, 8);
        Checks.rule(x, 0, 's', 0, "p100");
        Checks.rule(x, 0, 's', 1, "p1");
        Checks.rule(x, 0, 's', 2, "p10", "k2");
        Checks.start(x, 1);
        Checks.same("a launch is none", x.points(0), 0);
        Checks.same("one for each tick", x.tick(3), 3);
        Checks.same("of its place", x.points(0), 110);
    }

    /** "while a ball rests there, it stays closed", and a further ball that comes is an event all the same */
    private static void closedWhileABallRests() {
        Tiltcourt x = Checks.table("p h d", 0, 1, 24, 1, 2, 8);
        Checks.ruleIf(x, "0<2", 0, 's', 1, "L0", "T5", "+1");
        Checks.rule(x, 0, 't', 0, "k1");
        Checks.start(x, 1);
        x.tick(1);
        Checks.same("before it comes", x.isSeen(1), false);
        Checks.same("it comes", x.tick(1), 1);
        Checks.same("closed", x.isSeen(1), true);
        Checks.same("no further event", x.tick(1), 0);
        Checks.same("closed", x.isSeen(1), true);
        Checks.same("the ball 1 comes", x.tick(1), 1);
        Checks.same("the ball 2 comes", x.tick(2), 1);
        x.tick(3);
        Checks.same("the ball 0 was kicked", x.state(0), 'l');
        Checks.same("two rest", x.isSeen(1), true);
        Checks.same("of the drain, where no ball rests", x.isSeen(2), false);
        Checks.same("it comes to the drain", x.tick(1), 1);
        Checks.same("a drain is closed by no ball", x.isSeen(2), false);
    }

    /** "A switch that fails does neither." */
    private static void aFailingSwitchDoesNeither() {
        Tiltcourt x = Checks.table("p h d", 0, 1, 12, 1, 2, 8);
        Checks.rule(x, 0, 's', 1, "p1");
        x.fail(1, true);
        Checks.start(x, 1);
        Checks.same("no event", x.tick(1), 0);
        Checks.same("no rule", x.points(0), 0);
        Checks.same("the ball rests", x.state(0), 'r');
        Checks.same("not closed", x.isSeen(1), false);
        x.fail(1, false);
        Checks.same("closed when it does not fail", x.isSeen(1), true);
        Checks.same("which is no event", x.tick(1), 0);
        x.fail(1, true);
        Checks.same("it fails again", x.isSeen(1), false);
    }

    /**
     * "Places are wired in 4 rows of 4, by their numbers": "if one in its row, one in its column, and the one in the
     * row of the latter and the column of the former are closed", for each rectangle and each of its corners.
     */
    private static void threeOfARectangle() {
        for (int seen = 0; seen < 16; seen++) {
            for (int other = 0; other < 16; other++) {
                int inRow = seen / 4 * 4 + other % 4;
                int inColumn = other / 4 * 4 + seen % 4;
                if (inRow == seen || inColumn == seen) {
                    continue;
                }
                int last = inRow == 0 ? inRow : inColumn == 0 ? inColumn : other;
                int first = last == inRow ? other : inRow;
                int second = last == inColumn ? other : inColumn;
                Tiltcourt x = square(seen, first, second, last);
                Checks.rule(x, 1, 's', seen, "p1");
                Checks.start(x, 1);
                String what = seen + " by " + inRow + ", " + inColumn + ", " + other;
                Checks.same("events before it, " + what, x.tick(2), 3);
                Checks.same("nothing seen yet, " + what, x.isSeen(seen), false);
                Checks.same("3 balls and " + what, x.tick(1), 4);
                for (int i = 0; i < 16; i++) {
                    boolean isCorner = i == seen || i == inRow || i == inColumn || i == other;
                    Checks.same(i + " as " + what, x.isSeen(i), isCorner);
                }
            }
        }
    }

    /** The three are all needed: each two of them show nothing. */
    private static void twoAreTooFew() {
        int[][] pairs = {{5, 6}, {6, 5}, {5, 9}, {6, 9}, {5, 10}, {3, 4}, {9, 6}};
        for (int[] pair : pairs) {
            Tiltcourt x = square(15, pair);
            Checks.start(x, 1);
            Checks.same("events of two balls", x.tick(9), 3);
            for (int i = 0; i < 16; i++) {
                Checks.same("isSeen of " + i, x.isSeen(i), i == pair[0] || i == pair[1]);
            }
        }
    }

    /** "While the diodes are bad": not while they are good, and at once when they are bad. */
    private static void goodDiodesShowNothing() {
        Tiltcourt x = square(10, 5, 6, 9);
        x.spoil(false);
        Checks.start(x, 1);
        Checks.same("events of balls alone", x.tick(9), 6);
        Checks.same("not seen", x.isSeen(10), false);
        x.spoil(true);
        Checks.same("seen", x.isSeen(10), true);
        Checks.same("its event in the next tick", x.tick(1), 1);
        x.spoil(false);
        Checks.same("not seen", x.isSeen(10), false);
        Checks.same("closed by a ball", x.isSeen(9), true);
    }

    /** "are closed by resting balls": one that fails is not, whichever of the three it is. */
    private static void aFailingCorner() {
        for (int corner : new int[] {5, 6, 9}) {
            Tiltcourt x = square(10, 5, 6, 9);
            Checks.start(x, 1);
            x.tick(3);
            x.fail(corner, true);
            Checks.same("a failing " + corner, x.isSeen(10), false);
            Checks.same("no event", x.tick(1), 0);
            x.fail(corner, false);
            Checks.same("seen again", x.isSeen(10), true);
            Checks.same("its event again", x.tick(1), 1);
        }
    }

    /** "a switch that does not fail .. is seen as closed" */
    private static void aFailingSwitchIsNotSeen() {
        Tiltcourt x = square(10, 5, 6, 9);
        x.fail(10, true);
        Checks.start(x, 1);
        Checks.same("events of balls alone", x.tick(3), 6);
        Checks.same("not seen", x.isSeen(10), false);
        x.fail(10, false);
        Checks.same("seen", x.isSeen(10), true);
        Checks.same("its event", x.tick(1), 1);
        Checks.same("once", x.tick(1), 0);
    }

    /** "and is not closed by a resting ball": its own ball hides it, and it is seen when that ball has left. */
    private static void closedByItsOwnBall() {
        Tiltcourt x = square(10, 10, 5, 6, 9);
        Checks.ruleIf(x, "5=0", 0, 's', 10, "T8", "+1");
        Checks.rule(x, 0, 't', 0, "k10");
        Checks.start(x, 1);
        Checks.same("6 times a ball comes, and 9 is seen by three", x.tick(3), 7);
        Checks.same("4 times a ball comes", x.tick(1), 4);
        Checks.same("closed by its ball", x.isSeen(10), true);
        Checks.same("no event", x.tick(4), 0);
        Checks.same("kicked when this has been looked at", x.tick(1), 0);
        Checks.same("to the next hole", x.at(3), 5);
        Checks.same("it comes, and 10 is seen by three", x.tick(1), 2);
        Checks.same("seen", x.isSeen(10), true);
    }

    /** "closed by resting balls": a plain place closes for the moment only in which a ball comes. */
    private static void aPassingBallClosesNothing() {
        Tiltcourt x = Checks.table("p h h p h p d", 0, 1, 12, 1, 2, 8, 2, 4, 8, 4, 5, 8, 3, 6, 8, 5, 5, 1);
        x.spoil(true);
        Checks.ruleIf(x, "0<2", 0, 's', 1, "L0", "k1", "+1");
        Checks.ruleIf(x, "1<2", 0, 's', 2, "k2", "+1");
        Checks.ruleIf(x, "2<1", 0, 's', 4, "k4", "+1");
        Checks.rule(x, 0, 's', 0, "p1");
        Checks.start(x, 1);
        x.tick(30);
        Checks.same("4 holds a ball", x.isSeen(4), true);
        Checks.same("1 holds a ball", x.isSeen(1), true);
        Checks.same("5 is passed in each tick", x.tick(10), 10);
        Checks.same("but is not closed", x.isSeen(5), false);
        Checks.same("and so 0 is not seen", x.isSeen(0), false);
        Checks.same("no event of 0", x.points(0), 0);
    }

    /** "where it is so, and was not so in the tick before" */
    private static void notSoInTheTickBefore() {
        Tiltcourt x = square(10, 5, 6, 9);
        Checks.start(x, 1);
        Checks.same("so for the first time", x.tick(3), 7);
        Checks.same("so in the tick before", x.tick(20), 0);
        x.fail(5, true);
        x.fail(5, false);
        Checks.same("changed only between ticks", x.tick(1), 0);
        x.fail(5, true);
        x.tick(1);
        x.fail(5, false);
        Checks.same("not so in one tick", x.tick(1), 1);
        x.spoil(false);
        x.tick(1);
        x.spoil(true);
        Checks.same("good diodes for one tick", x.tick(1), 1);
        x.fail(10, true);
        x.tick(1);
        x.fail(10, false);
        Checks.same("it failed for one tick", x.tick(1), 1);
    }

    /** "by rising places": four balls in an L show two places in the same tick. */
    private static void byRisingPlaces() {
        Tiltcourt x = square(15, 4, 1, 2, 0);
        Checks.rule(x, 0, 's', 5, "p1");
        Checks.ruleIf(x, "4=0", 0, 's', 5, "=1");
        Checks.ruleIf(x, "4=1", 0, 's', 6, "p10");
        Checks.start(x, 1);
        x.tick(3);
        Checks.same("none yet", x.points(0), 0);
        Checks.same("4 balls, 2 places", x.tick(1), 6);
        Checks.same("5 is seen", x.isSeen(5), true);
        Checks.same("6 is seen", x.isSeen(6), true);
        Checks.same("first 5, then 6", x.points(0), 110);
    }

    /** "This is looked at in each tick as balls have moved", also those that leave a flipper. */
    private static void asBallsHaveMoved() {
        for (int leaves = 0; leaves < 2; leaves++) {
            Tiltcourt x = Checks.table("p h f p d h p",
                    0, 1, 36, 1, 5, 8, 5, 2, 8, 2, 4, 8, 2, 4, 80, 3, 4, 8, 6, 4, 8);
            Checks.ruleIf(x, "0<2", 0, 's', 1, "L0", "k1", "+1");
            Checks.ruleIf(x, "1<1", 0, 's', 5, "k5", "+1");
            Checks.start(x, 1);
            x.press(0);
            x.tick(9);
            Checks.same("a ball rests on the flipper", x.isSeen(2), true);
            Checks.same("and in 1", x.isSeen(1), true);
            Checks.same("and in 5", x.isSeen(5), true);
            x.spoil(true);
            Checks.same("6 is seen", x.isSeen(6), true);
            if (leaves == 1) {
                x.letGo(0);
            }
            Checks.same("an event of 6 if the ball stays", x.tick(1), 1 - leaves);
            Checks.same("seen", x.isSeen(6), leaves == 0);
        }
    }

    /** They are counted by tick, done by rules, and end a quiet time. */
    private static void seenEventsAreEventsOfPlaces() {
        Tiltcourt x = square(10, 5, 6, 9);
        x.spoil(false);
        Checks.rule(x, 0, 's', 10, "p1");
        Checks.start(x, 1);
        x.tick(3);
        x.tick(100);
        x.tick(50);
        x.spoil(true);
        Checks.same("counted", x.tick(1), 1);
        Checks.same("done", x.points(0), 10);
        x.tick(100);
        x.tick(99);
        Checks.same("199 ticks from it", x.state(0), 'r');
        x.tick(1);
        Checks.same("200 ticks from it", x.state(0), 'l');
    }

    private static void placesToAsk() {
        Tiltcourt x = Checks.table("p h d", 0, 1, 12, 1, 2, 8);
        for (int far : new int[] {-1, 3, 15, 16, Integer.MIN_VALUE, Integer.MAX_VALUE}) {
            Checks.fails("isSeen of " + far, Checks.INDEX, () -> x.isSeen(far));
        }
        Checks.same("without a game", x.isSeen(2), false);
        Checks.start(x, 1);
        x.tick(1);
        Checks.same("a ball rests", x.isSeen(1), true);
        x.cut(0);
        Checks.same("no ball after a cut", x.isSeen(1), false);
    }
}
