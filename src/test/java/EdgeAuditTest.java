/** The edges of 'Audits' and of the promises 29 to 34, and what a refused call leaves, a method for each sentence. */
public final class EdgeAuditTest {
    private static final int[] FAR = {-1, Integer.MIN_VALUE, Integer.MAX_VALUE};

    public static void main(String[] args) {
        fiveNumbers();
        zeroToSevenWritten();
        saveCountsItself();
        firstSaveIntoTheFirstPlace();
        aCutWithoutASave();
        fewerThanSevenAreLost();
        sevenAreASave();
        oneByOne();
        theOlderPlaceIsWritten();
        aWrongPlaceIsWrittenAnew();
        cutsInARow();
        savedAsOftenAsThePlaceTells();
        auditsFoundGoOn();
        whatACutLeaves();
        whatACutLoses();
        aCutInAGame();
        pointsOfGamesThatAreOver();
        gamesAndBallsAndTilts();
        shareOfNone();
        shareOfSavedBalls();
        shareSincePowerCame();
        meanOfNone();
        meanOfPlayers();
        meanOfTheLastGame();
        alwaysConsistent();
        refusedCallsChangeNothing();
        Checks.end("EdgeAuditTest");
    }

    private static Tiltcourt drop() {
        return Checks.table("p d", 0, 1, 12);
    }

    /** "if there is no such audit" */
    private static void fiveNumbers() {
        Tiltcourt x = new Tiltcourt();
        for (int far : FAR) {
            Checks.fails("audit " + far, Checks.INDEX, () -> x.audit(far));
        }
        Checks.fails("audit 5", Checks.INDEX, () -> x.audit(5));
        for (int i = 0; i < 5; i++) {
            Checks.same("audit " + i, x.audit(i), 0);
        }
    }

    /** "how many of the 7 numbers were written, 0 to 7" */
    private static void zeroToSevenWritten() {
        Tiltcourt x = new Tiltcourt();
        x.coin(3);
        for (int far : FAR) {
            Checks.fails("cut " + far, Checks.ARGUMENT, () -> x.cut(far));
        }
        Checks.fails("cut 8", Checks.ARGUMENT, () -> x.cut(8));
        Checks.same("nothing was cut", x.audit(3), 3);
        Checks.same("cut 7", x.cut(7), 1);
        Checks.same("cut 0", x.cut(0), 1);
    }

    /** "how often it was saved, this time included" */
    private static void saveCountsItself() {
        Tiltcourt x = new Tiltcourt();
        for (int i = 1; i <= 20; i++) {
            Checks.same("save", x.save(), i);
        }
        Checks.same("found", x.cut(0), 20);
        Checks.same("save", x.save(), 21);
    }

    /** "the first one without such": after a cut of a first save there is still none. */
    private static void firstSaveIntoTheFirstPlace() {
        for (int written = 0; written <= 6; written++) {
            Tiltcourt x = new Tiltcourt();
            x.coin(5);
            Checks.same("a cut of " + written, x.cut(written), 0);
            x.coin(7);
            Checks.same("save", x.save(), 1);
            x.coin(1);
            Checks.same("a cut of 6", x.cut(6), 1);
            Checks.same("the one saved", x.audit(3), 7);
        }
    }

    /** "or 0": a place that was never saved has a right sum, but was not saved at least once. */
    private static void aCutWithoutASave() {
        Tiltcourt x = drop();
        Checks.start(x, 1);
        x.tick(100);
        Checks.same("found", x.cut(0), 0);
        for (int i = 0; i < 5; i++) {
            Checks.same("audit " + i, x.audit(i), 0);
        }
        Checks.same("save", x.save(), 1);
    }

    private static void fewerThanSevenAreLost() {
        for (int written = 0; written <= 6; written++) {
            Tiltcourt x = new Tiltcourt();
            x.coin(2);
            x.save();
            x.coin(9);
            Checks.same("a cut of " + written, x.cut(written), 1);
            Checks.same("coins", x.audit(3), 2);
        }
    }

    private static void sevenAreASave() {
        Tiltcourt x = new Tiltcourt();
        x.coin(2);
        x.save();
        x.coin(9);
        Checks.same("a cut of 7", x.cut(7), 2);
        Checks.same("coins", x.audit(3), 11);
        Checks.same("the next save", x.save(), 3);
    }

    /** "one by one": a cut of 6 lacks the sum alone; where nothing changed, not even the old sum can be right. */
    private static void oneByOne() {
        Tiltcourt x = new Tiltcourt();
        x.save();
        x.save();
        x.save();
        Checks.same("a cut of 6", x.cut(6), 3);
        Checks.same("a cut of 1", x.cut(1), 3);
        Checks.same("a cut of 0", x.cut(0), 3);
        Checks.same("a cut of 7", x.cut(7), 4);
    }

    /** "into the one of two places that is not the newer one with a right sum": so the newer one is never harmed. */
    private static void theOlderPlaceIsWritten() {
        Tiltcourt x = new Tiltcourt();
        for (int i = 1; i <= 6; i++) {
            x.coin(1);
            Checks.same("save", x.save(), i);
            x.coin(20);
            Checks.same("a cut of " + i, x.cut(i), i);
            Checks.same("coins", x.audit(3), i);
        }
    }

    /** A cut harms the older place; saved again, it goes there, and a further cut finds it. */
    private static void aWrongPlaceIsWrittenAnew() {
        Tiltcourt x = new Tiltcourt();
        x.coin(1);
        x.save();
        x.coin(1);
        x.save();
        x.coin(1);
        Checks.same("a cut of 3", x.cut(3), 2);
        x.coin(4);
        Checks.same("save", x.save(), 3);
        Checks.same("a cut of 4", x.cut(4), 3);
        Checks.same("coins", x.audit(3), 6);
        Checks.same("a cut of 2", x.cut(2), 3);
        Checks.same("coins", x.audit(3), 6);
    }

    private static void cutsInARow() {
        Tiltcourt x = new Tiltcourt();
        x.coin(7);
        x.save();
        for (int i = 0; i < 30; i++) {
            x.coin(1);
            Checks.same("a cut of " + i % 7, x.cut(i % 7), 1);
            Checks.same("coins", x.audit(3), 7);
            Checks.same("isConsistent", x.isConsistent(), true);
        }
    }

    /** "and it was saved as often as that place tells" */
    private static void savedAsOftenAsThePlaceTells() {
        for (int saves = 0; saves < 6; saves++) {
            for (int written = 0; written <= 7; written++) {
                Tiltcourt x = new Tiltcourt();
                for (int i = 0; i < saves; i++) {
                    x.save();
                }
                int due = written == 7 ? saves + 1 : saves;
                Checks.same("a cut of " + written + " after " + saves, x.cut(written), due);
                Checks.same("the next save", x.save(), due + 1);
            }
        }
    }

    private static void auditsFoundGoOn() {
        Tiltcourt x = drop();
        Checks.start(x, 1);
        x.tick(100);
        x.save();
        x.cut(0);
        Checks.same("balls", x.audit(1), 3);
        Checks.start(x, 1);
        x.tick(100);
        Checks.same("games", x.audit(0), 2);
        Checks.same("balls", x.audit(1), 6);
        Checks.same("coins", x.audit(3), 4);
    }

    /** "as in a new machine with the same table, rules, faults and ranks" */
    private static void whatACutLeaves() {
        Tiltcourt x = Checks.table("p p d", 0, 1, 12, 1, 2, 11);
        Checks.ruleIf(x, "0=0", 0, 's', 1, "p1", "S4");
        Checks.ruleIf(x, "0=0", 4, 's', 2, "p100");
        x.fail(2, true);
        x.spoil(true);
        x.rank(4, 6);
        x.cut(0);
        Checks.same("whole", x.isWhole(), true);
        Checks.same("the place 3 is the next", x.place('d', 0), 3);
        Checks.same("the lane 1 is the next", x.lane(1, 3, 5), 1);
        Checks.same("the rule 2 is the next", x.rule(0, 't', 0, false), 2);
        Checks.same("two conditions", x.condition(1, 0, '=', 0), 2);
        Checks.same("three actions", x.action(0, 'l', 2), 3);
        Checks.same("fails", x.fail(2, false), true);
        Checks.same("does not fail", x.fail(1, false), false);
        Checks.same("bad diodes", x.spoil(false), true);
        Checks.same("rank", x.rank(4, 0), 6);
        Checks.same("rank", x.rank(3, 0), 0);
        Checks.start(x, 1);
        x.tick(1);
        Checks.same("rules are done", x.points(0), 10);
        Checks.same("lamps", x.lamps(0), 4);
    }

    /** "all but these places is lost" */
    private static void whatACutLoses() {
        Tiltcourt x = Checks.table("p b h d", 0, 1, 12, 1, 2, 15, 2, 3, 8);
        Checks.rule(x, 0, 's', 1, "S2", "T9", "B1", "p1");
        Checks.rule(x, 0, 't', 0, "p500");
        x.coin(7);
        x.begin(1);
        x.press(0);
        x.press(1);
        x.tick(4);
        Checks.same("rests", x.state(0), 'r');
        Checks.same("hot", x.heat(1), 9);
        x.cut(0);
        Checks.same("home", x.state(0), '-');
        Checks.same("player", x.player(), -1);
        Checks.same("ball", x.ball(), 0);
        Checks.same("bonus", x.bonus(), 0);
        Checks.same("cold", x.heat(1), 0);
        Checks.same("not seen", x.isSeen(2), false);
        Checks.same("runs 0", x.runs(0), false);
        Checks.same("runs 2", x.runs(2), false);
        Checks.fails("points", Checks.INDEX, () -> x.points(0));
        Checks.fails("lamps", Checks.INDEX, () -> x.lamps(0));
        Checks.fails("variable", Checks.INDEX, () -> x.variable(0, 0));
        Checks.fails("no credits", UnsupportedOperationException.class, () -> x.begin(1));
        Checks.fails("tick", Checks.STATE, () -> x.tick(1));
        Checks.same("nor an odd coin", x.coin(1), 0);
        Checks.same("a credit", x.coin(1), 1);
        x.begin(1);
        Checks.same("down", x.letGo(0), false);
        Checks.same("down", x.letGo(1), false);
        x.tick(12);
        Checks.same("one timer, of this game", x.points(0), 10 + 5000);
        Checks.same("swing", x.push(), '-');
    }

    /** The game that was on is not over: its points are not counted, and nobody gets a credit. */
    private static void aCutInAGame() {
        Tiltcourt x = drop();
        Checks.rule(x, 0, 's', 1, "p999");
        Checks.start(x, 2);
        x.tick(5);
        Checks.same("a save of all", x.cut(7), 1);
        Checks.same("games", x.audit(0), 1);
        Checks.same("balls", x.audit(1), 2);
        Checks.same("points", x.audit(4), 0);
        Checks.same("credits", x.coin(1), 0);
        Checks.start(x, 1);
        Checks.same("player", x.player(), 0);
        Checks.same("ball", x.ball(), 1);
        Checks.same("points", x.points(0), 0);
    }

    /** "points of games that are over": of all players, when the game is over */
    private static void pointsOfGamesThatAreOver() {
        Tiltcourt x = drop();
        Checks.rule(x, 0, 's', 1, "p1");
        Checks.start(x, 3);
        x.tick(17);
        Checks.same("not over", x.audit(4), 0);
        x.tick(1);
        Checks.same("over", x.audit(4), 180);
        Checks.start(x, 1);
        x.tick(5);
        Checks.same("the next is not over", x.audit(4), 180);
        x.tick(1);
        Checks.same("over", x.audit(4), 240);
    }

    /** "games begun, balls ended, tilts" */
    private static void gamesAndBallsAndTilts() {
        Tiltcourt x = drop();
        Checks.ruleIf(x, "0=0", 0, 's', 1, "E0", "+1");
        x.coin(8);
        x.begin(4);
        Checks.same("one game of four", x.audit(0), 1);
        x.tick(1);
        Checks.same("saved is not ended", x.audit(1), 0);
        x.tick(1);
        Checks.same("an extra ball is for one that has ended", x.audit(1), 1);
        for (int i = 0; i < 6; i++) {
            x.push();
        }
        Checks.same("tilts", x.audit(2), 1);
        x.tick(1);
        Checks.same("a tilted one has ended", x.audit(1), 2);
        Checks.same("coins", x.audit(3), 8);
    }

    /** "if there were none" */
    private static void shareOfNone() {
        Tiltcourt x = drop();
        Checks.fails("before a game", Checks.ARITHMETIC, () -> x.savedShare());
        Checks.start(x, 1);
        Checks.fails("before a ball came home", Checks.ARITHMETIC, () -> x.savedShare());
        x.tick(1);
        Checks.same("one, saved", x.savedShare(), 1.0);
        x.cut(7);
        Checks.fails("after a cut", Checks.ARITHMETIC, () -> x.savedShare());
    }

    /** "divided by that and the balls that ended, .. both converted to float" */
    private static void shareOfSavedBalls() {
        Tiltcourt x = drop();
        Checks.start(x, 1);
        int[] saved = {1, 1, 2, 2, 3, 3};
        for (int i = 0; i < 6; i++) {
            x.tick(1);
            Checks.same("saved of " + (i + 1), x.savedShare(), (float) saved[i] / (float) (i + 1));
        }
        Tiltcourt tilted = drop();
        Checks.start(tilted, 1);
        for (int i = 0; i < 6; i++) {
            tilted.push();
        }
        tilted.tick(1);
        Checks.same("ended, not saved", tilted.savedShare(), 0.0);
        tilted.tick(1);
        Checks.same("1 of 2", tilted.savedShare(), 0.5);
    }

    /** "since power came": over games, not over cuts. */
    private static void shareSincePowerCame() {
        Tiltcourt x = drop();
        Checks.start(x, 1);
        x.tick(100);
        Checks.start(x, 1);
        x.tick(1);
        Checks.same("4 of 7", x.savedShare(), (float) 4 / (float) 7);
        x.save();
        x.cut(0);
        Checks.start(x, 1);
        x.tick(3);
        Checks.same("2 of 3", x.savedShare(), (float) 2 / (float) 3);
    }

    /** "if there was none since power came" */
    private static void meanOfNone() {
        Tiltcourt x = drop();
        Checks.fails("before a game", Checks.ARITHMETIC, () -> x.meanPoints());
        Checks.start(x, 1);
        Checks.same("in a game", x.meanPoints(), 0.0);
        x.tick(100);
        Checks.same("after a game", x.meanPoints(), 0.0);
        x.cut(7);
        Checks.fails("after a cut", Checks.ARITHMETIC, () -> x.meanPoints());
    }

    /** "The sum divided by the number of players, both converted to double." */
    private static void meanOfPlayers() {
        for (int players = 1; players <= 4; players++) {
            Tiltcourt x = drop();
            Checks.rule(x, 0, 's', 1, "p1");
            Checks.start(x, players);
            for (int ticks = 1; ticks <= 6 * players; ticks++) {
                x.tick(1);
                Checks.same("mean", x.meanPoints(), (double) (10L * ticks) / (double) players);
            }
        }
    }

    private static void meanOfTheLastGame() {
        Tiltcourt x = drop();
        Checks.rule(x, 0, 's', 1, "p1");
        Checks.start(x, 4);
        x.tick(100);
        Checks.same("the last", x.meanPoints(), 60.0);
        Checks.start(x, 2);
        x.tick(1);
        Checks.same("this one", x.meanPoints(), 5.0);
    }

    /** "Returns true if the invariants hold." */
    private static void alwaysConsistent() {
        Tiltcourt x = Checks.table("p h d", 0, 1, 12, 1, 2, 8);
        Checks.same("a table", x.isConsistent(), true);
        Checks.rule(x, 0, 's', 1, "p3", "m2", "k1", "B1");
        Checks.start(x, 2);
        for (int i = 0; i < 30 && x.player() >= 0; i++) {
            x.tick(1);
            Checks.same("after a tick", x.isConsistent(), true);
        }
        for (int written = 0; written <= 7; written++) {
            x.save();
            Checks.same("after a save", x.isConsistent(), true);
            x.cut(written);
            Checks.same("after a cut", x.isConsistent(), true);
        }
    }

    /** "A method that throws an exception changes nothing." */
    private static void refusedCallsChangeNothing() {
        Tiltcourt x = Checks.table("p h d", 0, 1, 24, 1, 2, 8);
        Checks.rule(x, 0, 's', 1, "p1", "T50");
        x.coin(3);
        x.begin(1);
        x.press(0);
        x.push();
        refuseAll(x);
        Checks.same("left", x.left(0), 2);
        Checks.same("player", x.player(), 0);
        Checks.same("swing", x.push(), 'w');
        Checks.same("up", x.letGo(0), true);
        Checks.same("the other side", x.letGo(1), false);
        Checks.same("games", x.audit(0), 1);
        Checks.same("coins", x.audit(3), 3);
        Checks.same("ticks", x.tick(2), 1);
        Checks.same("rules", x.points(0), 10);
        Checks.same("the odd coin", x.coin(1), 1);
        Checks.same("no save", x.save(), 1);
        x.tick(100);
        x.tick(100);
        x.tick(100);
        x.tick(100);
        Checks.pass(x, 600);
        Checks.same("over", x.player(), -1);
        Checks.same("the next place", x.place('h', 0), 3);
        Checks.same("the next lane", x.lane(1, 2, 8), 1);
        Checks.same("the next rule", x.rule(0, 't', 0, false), 1);
        Checks.same("the first condition", x.condition(1, 0, '<', 0), 1);
        Checks.same("the third action", x.action(0, 'E', 0), 3);
        Checks.same("rank", x.rank(5, 0), 0);
    }

    private static void refuseAll(Tiltcourt x) {
        Checks.fails("place", Checks.STATE, () -> x.place('h', 0));
        Checks.fails("lane", Checks.STATE, () -> x.lane(1, 2, 8));
        Checks.fails("fail", Checks.INDEX, () -> x.fail(3, true));
        Checks.fails("rank", Checks.ARGUMENT, () -> x.rank(5, 10));
        Checks.fails("rule", Checks.STATE, () -> x.rule(0, 't', 0, false));
        Checks.fails("condition", Checks.STATE, () -> x.condition(0, 0, '>', 5));
        Checks.fails("action", Checks.STATE, () -> x.action(0, 'p', 999));
        Checks.fails("coin", Checks.ARGUMENT, () -> x.coin(21));
        Checks.fails("begin", Checks.STATE, () -> x.begin(1));
        Checks.fails("press", Checks.INDEX, () -> x.press(2));
        Checks.fails("letGo", Checks.INDEX, () -> x.letGo(2));
        Checks.fails("tick", Checks.ARGUMENT, () -> x.tick(101));
        Checks.fails("cut", Checks.ARGUMENT, () -> x.cut(8));
    }
}
