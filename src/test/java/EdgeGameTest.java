/** The edges of 'Games' and of a tilt, and of the promises 11, 12, 17 to 21 and 28, a method for each sentence. */
public final class EdgeGameTest {
    private static final int[] FAR = {-1, Integer.MIN_VALUE, Integer.MAX_VALUE};
    /** What 24 actions 'B' 999 give for one event. */
    private static final long DUE_FOR_ONE = 24 * 99900L;

    public static void main(String[] args) {
        oneToTwentyCoins();
        twoCoinsMakeACredit();
        theOddCoinIsKept();
        coinsInAGame();
        oneToFourPlayers();
        aCreditForEachPlayer();
        tooFewCredits();
        beginInAGame();
        beginWithoutAWholeTable();
        firstExceptionOfBegin();
        nobodyWithoutAGame();
        threeBallsEach();
        playersTakeTurns();
        playersToAsk();
        variablesToAsk();
        playersOfTheLastGame();
        playersHaveTheirOwn();
        aNewGameForgets();
        multiplierOneAndBonusZero();
        modesEndedWithTheirTimers();
        gatesClosed();
        warningsAndSwingZero();
        flippersAsTheyAre();
        oneBallIsLaunched();
        bonusTimesTheMultiplier();
        bonusOfALongBall();
        longestBonus();
        bonusWithoutAGame();
        extraBallDoesNotCount();
        extraBallOfTheLastBall();
        fiveThousandPoints();
        aCreditForEachWhoHasThem();
        noRuleInATilt();
        noBonusInATilt();
        aTiltEndsWithItsBall();
        extraBallInATilt();
        Checks.end("EdgeGameTest");
    }

    /** Each ball drains in one tick, is launched again, and drains again. */
    private static Tiltcourt drop() {
        return Checks.table("p d", 0, 1, 12);
    }

    private static void tilt(Tiltcourt x) {
        for (int i = 0; i < 6; i++) {
            x.push();
        }
        Checks.same("it is tilted", x.push(), 't');
    }

    /** "how many, 1 to 20" */
    private static void oneToTwentyCoins() {
        Tiltcourt x = new Tiltcourt();
        for (int far : FAR) {
            Checks.fails("coin " + far, Checks.ARGUMENT, () -> x.coin(far));
        }
        Checks.fails("coin 0", Checks.ARGUMENT, () -> x.coin(0));
        Checks.fails("coin 21", Checks.ARGUMENT, () -> x.coin(21));
        Checks.same("none was taken", x.audit(3), 0);
        Checks.same("coin 20", x.coin(20), 10);
        Checks.same("coin 1", x.coin(1), 10);
        Checks.same("21 were taken", x.audit(3), 21);
    }

    /** "two make a credit" */
    private static void twoCoinsMakeACredit() {
        for (int coins = 1; coins <= 20; coins++) {
            Checks.same("coin " + coins, new Tiltcourt().coin(coins), coins / 2);
        }
    }

    /** A coin that makes no credit yet makes one with the next, also over a refused call and a game. */
    private static void theOddCoinIsKept() {
        Tiltcourt x = drop();
        Checks.same("1", x.coin(1), 0);
        Checks.fails("coin 0", Checks.ARGUMENT, () -> x.coin(0));
        Checks.same("1 and 1", x.coin(1), 1);
        Checks.same("3 more", x.coin(3), 2);
        x.begin(2);
        x.tick(100);
        Checks.same("1 and 19", x.coin(19), 10);
        Checks.same("1 more", x.coin(1), 10);
        Checks.same("1 and 2", x.coin(2), 11);
    }

    private static void coinsInAGame() {
        Tiltcourt x = drop();
        x.coin(2);
        x.begin(1);
        Checks.same("a credit", x.coin(2), 1);
        Checks.same("coins", x.audit(3), 4);
        x.tick(100);
        Checks.same("it is kept", x.begin(1), 0);
    }

    /** "how many, 1 to 4" */
    private static void oneToFourPlayers() {
        Tiltcourt x = drop();
        x.coin(20);
        for (int far : FAR) {
            Checks.fails("begin " + far, Checks.ARGUMENT, () -> x.begin(far));
        }
        Checks.fails("begin 0", Checks.ARGUMENT, () -> x.begin(0));
        Checks.fails("begin 5", Checks.ARGUMENT, () -> x.begin(5));
        Checks.same("no game", x.player(), -1);
        Checks.same("begin 4", x.begin(4), 6);
        x.tick(100);
        Checks.same("begin 1", x.begin(1), 5);
    }

    /** "for a credit for each player", "Returns the number of credits that are left." */
    private static void aCreditForEachPlayer() {
        for (int players = 1; players <= 4; players++) {
            Tiltcourt x = drop();
            x.coin(11);
            Checks.same("left by " + players, x.begin(players), 5 - players);
            Checks.same("the odd coin", x.coin(1), 6 - players);
        }
    }

    /** "if there are fewer credits": as many are enough. */
    private static void tooFewCredits() {
        for (int players = 1; players <= 4; players++) {
            int many = players;
            Tiltcourt x = drop();
            if (many > 1) {
                x.coin(2 * many - 2);
            }
            x.coin(1);
            Checks.fails("half a credit too few", UnsupportedOperationException.class, () -> x.begin(many));
            Checks.same("no game", x.ball(), 0);
            Checks.same("no game counted", x.audit(0), 0);
            Checks.same("none was taken", x.coin(1), many);
            Checks.same("as many", x.begin(many), 0);
        }
    }

    /** "if a game is on" */
    private static void beginInAGame() {
        Tiltcourt x = drop();
        x.coin(20);
        x.begin(1);
        Checks.fails("in a game", Checks.STATE, () -> x.begin(1));
        x.tick(5);
        Checks.fails("before its last tick", Checks.STATE, () -> x.begin(1));
        x.tick(1);
        Checks.same("after it", x.begin(1), 8);
        Checks.same("games", x.audit(0), 2);
    }

    /** "or the table is not whole" */
    private static void beginWithoutAWholeTable() {
        Tiltcourt x = Checks.table("p d g", 0, 1, 12, 2, 1, 5);
        x.coin(2);
        Checks.fails("a lane too few", Checks.STATE, () -> x.begin(1));
        x.lane(2, 1, 5);
        Checks.same("whole", x.begin(1), 0);
        x.tick(100);
        x.place('h', 0);
        x.coin(2);
        Checks.fails("a new place without a lane", Checks.STATE, () -> x.begin(1));
    }

    private static void firstExceptionOfBegin() {
        Tiltcourt x = new Tiltcourt();
        Checks.fails("no player, not whole, no credit", Checks.ARGUMENT, () -> x.begin(0));
        Checks.fails("not whole, no credit", Checks.STATE, () -> x.begin(1));
        Tiltcourt y = drop();
        Checks.fails("no player, no credit", Checks.ARGUMENT, () -> y.begin(5));
        Checks.fails("no credit", UnsupportedOperationException.class, () -> y.begin(1));
        Checks.start(y, 1);
        Checks.fails("no player in a game", Checks.ARGUMENT, () -> y.begin(5));
        Checks.fails("no credit in a game", Checks.STATE, () -> y.begin(1));
    }

    /** "or -1 without a game", "or 0 without a game" */
    private static void nobodyWithoutAGame() {
        Tiltcourt x = drop();
        for (int turn = 0; turn < 3; turn++) {
            Checks.same("player", x.player(), -1);
            Checks.same("ball", x.ball(), 0);
            Checks.same("bonus", x.bonus(), 0);
            Checks.start(x, 2);
            x.tick(1);
            Checks.same("player in a game", x.player(), 0);
            Checks.same("ball in a game", x.ball(), 1);
            if (turn == 0) {
                x.tick(100);
            } else {
                x.cut(0);
            }
        }
    }

    /** "3 balls each": 6 ticks each, as each is saved once. */
    private static void threeBallsEach() {
        for (int players = 1; players <= 4; players++) {
            Tiltcourt x = drop();
            Checks.start(x, players);
            x.tick(6 * players - 1);
            Checks.same("the last ball", x.ball(), 3);
            Checks.same("of the last player", x.player(), players - 1);
            x.tick(1);
            Checks.same("over", x.player(), -1);
            Checks.same("balls", x.audit(1), 3 * players);
        }
    }

    /** "players take turns" */
    private static void playersTakeTurns() {
        Tiltcourt x = drop();
        Checks.start(x, 4);
        for (int i = 0; i < 12; i++) {
            Checks.same("player", x.player(), i % 4);
            Checks.same("ball", x.ball(), i / 4 + 1);
            x.tick(1);
            Checks.same("the same player, saved", x.player(), i % 4);
            x.tick(1);
        }
        Checks.same("over", x.ball(), 0);
    }

    /** "if there is no such player": none before a game, and as many as it has. */
    private static void playersToAsk() {
        Tiltcourt x = drop();
        Checks.fails("points before a game", Checks.INDEX, () -> x.points(0));
        Checks.fails("lamps before a game", Checks.INDEX, () -> x.lamps(0));
        Checks.fails("variable before a game", Checks.INDEX, () -> x.variable(0, 0));
        for (int players = 1; players <= 4; players++) {
            Checks.start(x, players);
            for (int i = 0; i < players; i++) {
                Checks.same("points", x.points(i), 0);
                Checks.same("lamps", x.lamps(i), 0);
                Checks.same("variable", x.variable(i, 5), 0);
            }
            for (int far : new int[] {players, -1, 4, Integer.MIN_VALUE, Integer.MAX_VALUE}) {
                Checks.fails("points of " + far, Checks.INDEX, () -> x.points(far));
                Checks.fails("lamps of " + far, Checks.INDEX, () -> x.lamps(far));
                Checks.fails("variable of " + far, Checks.INDEX, () -> x.variable(far, 0));
            }
            x.tick(100);
        }
    }

    /** "or variable", "0 to 5" */
    private static void variablesToAsk() {
        Tiltcourt x = drop();
        Checks.start(x, 1);
        for (int far : FAR) {
            Checks.fails("variable " + far, Checks.INDEX, () -> x.variable(0, far));
        }
        Checks.fails("variable 6", Checks.INDEX, () -> x.variable(0, 6));
        Checks.same("variable 5", x.variable(0, 5), 0);
    }

    /** "of this game, or of the last one": with fewer players in the next, the others are gone. */
    private static void playersOfTheLastGame() {
        Tiltcourt x = drop();
        Checks.ruleIf(x, "2<6", 0, 's', 1, "p1", "+1", "l3");
        Checks.start(x, 3);
        x.tick(100);
        Checks.same("over", x.player(), -1);
        for (int i = 0; i < 3; i++) {
            Checks.same("points", x.points(i), 60);
            Checks.same("lamps", x.lamps(i), 8);
            Checks.same("variable", x.variable(i, 2), 6);
        }
        Checks.fails("points of 3", Checks.INDEX, () -> x.points(3));
        Checks.start(x, 2);
        Checks.same("points of 1", x.points(1), 0);
        Checks.fails("points of 2", Checks.INDEX, () -> x.points(2));
    }

    /** "variables, lamps and points of this player are there as they were" */
    private static void playersHaveTheirOwn() {
        Tiltcourt x = drop();
        Checks.ruleIf(x, "0=0", 0, 's', 1, "l1", "p1");
        Checks.ruleIf(x, "0=2", 0, 's', 1, "o1", "l2", "p10");
        Checks.rule(x, 0, 's', 1, "+1");
        Checks.start(x, 2);
        x.tick(2);
        Checks.same("variable of 0", x.variable(0, 0), 2);
        Checks.same("variable of 1", x.variable(1, 0), 0);
        Checks.same("lamps of 1", x.lamps(1), 0);
        x.tick(1);
        Checks.same("variable of 1", x.variable(1, 0), 1);
        Checks.same("lamps of 0", x.lamps(0), 2);
        Checks.same("points of 0", x.points(0), 10);
        x.tick(1);
        Checks.same("0 again", x.player(), 0);
        x.tick(1);
        Checks.same("goes on where it was", x.variable(0, 0), 3);
        Checks.same("lamps of 0", x.lamps(0), 4);
        Checks.same("lamps of 1", x.lamps(1), 2);
        Checks.same("points of 0", x.points(0), 110);
        Checks.same("points of 1", x.points(1), 10);
    }

    private static void aNewGameForgets() {
        Tiltcourt x = drop();
        Checks.rule(x, 0, 's', 1, "p7", "+1", "l3", "B1");
        Checks.start(x, 4);
        x.tick(100);
        Checks.start(x, 4);
        for (int i = 0; i < 4; i++) {
            Checks.same("points", x.points(i), 0);
            Checks.same("lamps", x.lamps(i), 0);
            Checks.same("variable", x.variable(i, 0), 0);
        }
        Checks.same("bonus", x.bonus(), 0);
        Checks.same("mean", x.meanPoints(), 0.0);
        Checks.same("isConsistent", x.isConsistent(), true);
    }

    /** "the multiplier is 1, the bonus 0" */
    private static void multiplierOneAndBonusZero() {
        Tiltcourt x = drop();
        Checks.rule(x, 0, 's', 1, "p1");
        Checks.ruleIf(x, "0=0", 0, 's', 1, "m9", "B1", "+1");
        Checks.start(x, 2);
        x.tick(2);
        Checks.same("1, 9 and the bonus", x.points(0), 10 + 90 + 900);
        Checks.same("bonus of the next", x.bonus(), 0);
        x.tick(1);
        Checks.same("times 1", x.points(1), 10);
        x.tick(1);
        x.tick(1);
        Checks.same("times 1 also for a player's next ball", x.points(0), 1010);
    }

    /** "all modes but 0 are ended with their timers" */
    private static void modesEndedWithTheirTimers() {
        Tiltcourt x = drop();
        Checks.ruleIf(x, "0=1", 0, 's', 1, "S1", "S5");
        Checks.ruleIf(x, "0=2", 0, 's', 1, "S1", "S5");
        Checks.rule(x, 0, 's', 1, "+1");
        Checks.ruleIf(x, "0=2", 1, 'b', 0, "T4");
        Checks.rule(x, 1, 't', 0, "p1");
        Checks.start(x, 1);
        x.tick(1);
        Checks.same("none yet", x.runs(1) || x.runs(5), false);
        x.tick(1);
        Checks.same("ended with the ball", x.runs(1) || x.runs(5), false);
        Checks.same("the next ball", x.ball(), 2);
        Checks.same("0 runs", x.runs(0), true);
        x.tick(1);
        Checks.same("begun again", x.runs(1) && x.runs(5), true);
        x.tick(3);
        Checks.same("no timer is left", x.points(0), 0);
    }

    /** "gates closed" */
    private static void gatesClosed() {
        Tiltcourt x = Checks.table("p g d", 0, 1, 12, 1, 2, 110, 1, 2, 11);
        Checks.ruleIf(x, "0=0", 0, 's', 2, "g1", "+1");
        Checks.start(x, 1);
        x.tick(3);
        Checks.same("open when saved", x.left(0), 10);
        x.tick(10);
        Checks.same("the next ball", x.ball(), 2);
        x.tick(1);
        Checks.same("closed", x.left(0), 1);
    }

    /** "warnings and swing 0" */
    private static void warningsAndSwingZero() {
        Tiltcourt x = drop();
        Checks.start(x, 1);
        String due = "-w-w-";
        for (int ball = 1; ball <= 3; ball++) {
            for (int i = 0; i < due.length(); i++) {
                Checks.same("push " + i, x.push(), due.charAt(i));
            }
            x.tick(2);
        }
        Checks.same("no tilt", x.audit(2), 0);
    }

    /** "flippers as they are": up, and longer than 3 ticks, when the next ball comes. */
    private static void flippersAsTheyAre() {
        Tiltcourt x = Checks.table("p f d", 0, 1, 12, 1, 2, 18, 1, 2, 11);
        Checks.start(x, 1);
        x.tick(3);
        x.press(0);
        x.tick(1);
        Checks.same("the next ball", x.ball(), 2);
        x.tick(1);
        Checks.same("the number 1, by 18", x.left(0), 1);
        Checks.same("up", x.press(0), false);
    }

    /** "one ball is launched": the lowest, and no other. */
    private static void oneBallIsLaunched() {
        Tiltcourt x = Checks.table("p d", 0, 1, 36);
        Checks.start(x, 1);
        for (int i = 0; i < 6; i++) {
            Checks.same("launched", x.left(0), 3);
            for (int ball = 1; ball < 4; ball++) {
                Checks.same("home", x.state(ball), '-');
            }
            x.tick(3);
        }
        Checks.same("none when the game is over", x.state(0), '-');
    }

    /** "the bonus times the multiplier is added to the points": of the end, not of when it was given */
    private static void bonusTimesTheMultiplier() {
        Tiltcourt x = drop();
        Checks.ruleIf(x, "0=0", 0, 's', 1, "m2", "B3");
        Checks.ruleIf(x, "0=1", 0, 's', 1, "B4", "m5");
        Checks.rule(x, 0, 's', 1, "+1");
        Checks.start(x, 1);
        x.tick(1);
        Checks.same("bonus", x.bonus(), 300);
        x.tick(1);
        Checks.same("points", x.points(0), 3500);
        Checks.same("bonus of the next", x.bonus(), 0);
        x.tick(100);
        Checks.same("at the end of the game", x.points(0), 3500);
        Checks.same("isConsistent", x.isConsistent(), true);
    }

    /** A ball comes to the place 1 in each tick while the flipper is down, and drains by it. */
    private static Tiltcourt giver() {
        Tiltcourt x = Checks.table("p f d", 0, 1, 1, 1, 2, 1, 1, 1, 1);
        for (int i = 0; i < 6; i++) {
            Checks.rule(x, 0, 's', 1, "B999", "B999", "B999", "B999");
        }
        return x;
    }

    private static void drain(Tiltcourt x) {
        x.letGo(0);
        x.press(0);
        x.tick(2);
    }

    /** What is paid at a ball's end, and what rests on it, is right also above what an int holds. */
    private static void bonusOfALongBall() {
        Tiltcourt x = giver();
        Checks.start(x, 1);
        Checks.pass(x, 800);
        Checks.same("an int still holds it", x.bonus(), 800 * DUE_FOR_ONE);
        x.tick(100);
        drain(x);
        Checks.same("the next ball", x.ball(), 2);
        Checks.same("its bonus", x.bonus(), 0);
        Checks.same("901 events", x.points(0), 901 * DUE_FOR_ONE);
        Checks.same("isConsistent", x.isConsistent(), true);
        Checks.same("mean", x.meanPoints(), (double) (901 * DUE_FOR_ONE));
        // the other two balls are saved once each
        for (int i = 0; i < 4; i++) {
            drain(x);
        }
        Checks.same("over", x.player(), -1);
        Checks.same("905 events", x.points(0), 905 * DUE_FOR_ONE);
        Checks.same("audit 4", x.audit(4), 905 * DUE_FOR_ONE);
        Checks.same("mean", x.meanPoints(), (double) (905 * DUE_FOR_ONE));
        Checks.same("the credit", x.coin(1), 1);
    }

    /** More than twice what an int holds, with the multiplier 9, for the second of two players. */
    private static void longestBonus() {
        Tiltcourt x = giver();
        Checks.rule(x, 0, 's', 2, "m9");
        Checks.start(x, 2);
        drain(x);
        drain(x);
        Checks.same("the second one's", x.player(), 1);
        x.letGo(0);
        Checks.pass(x, 2100);
        drain(x);
        Checks.same("the first one's", x.player(), 0);
        Checks.same("2 events", x.points(0), 9 * 2 * DUE_FOR_ONE);
        Checks.same("2101 events", x.points(1), 9 * 2101 * DUE_FOR_ONE);
        Checks.same("isConsistent", x.isConsistent(), true);
    }

    /** "Returns the bonus, 0 without a game." */
    private static void bonusWithoutAGame() {
        Tiltcourt x = drop();
        Checks.rule(x, 0, 's', 1, "B1");
        Checks.same("before", x.bonus(), 0);
        Checks.start(x, 1);
        x.tick(5);
        Checks.same("in the last ball", x.bonus(), 100);
        x.tick(1);
        Checks.same("after", x.bonus(), 0);
        Checks.same("paid three times", x.points(0), 600);
        Checks.start(x, 1);
        x.tick(1);
        x.cut(0);
        Checks.same("after a cut", x.bonus(), 0);
    }

    /** "with an extra ball, this player's next ball begins without counting" */
    private static void extraBallDoesNotCount() {
        Tiltcourt x = drop();
        Checks.ruleIf(x, "0=0", 0, 's', 1, "E0", "m4", "B1", "+1");
        Checks.start(x, 2);
        x.tick(2);
        Checks.same("the same player", x.player(), 0);
        Checks.same("the same number", x.ball(), 1);
        Checks.same("its bonus was paid", x.points(0), 400);
        Checks.same("it ended", x.audit(1), 1);
        Checks.same("it begins anew", x.bonus(), 0);
        x.tick(1);
        Checks.same("it is saved too", x.player(), 0);
        x.tick(1);
        Checks.same("then the other", x.player(), 1);
        Checks.same("of the same number", x.ball(), 1);
    }

    /** The game goes on for an extra ball of the last player's last ball. */
    private static void extraBallOfTheLastBall() {
        Tiltcourt x = drop();
        Checks.ruleIf(x, "0=5", 0, 's', 1, "E0");
        Checks.rule(x, 0, 's', 1, "+1");
        Checks.start(x, 1);
        x.tick(6);
        Checks.same("not over", x.ball(), 3);
        Checks.same("three have ended", x.audit(1), 3);
        x.tick(2);
        Checks.same("over", x.ball(), 0);
        Checks.same("four have ended", x.audit(1), 4);
    }

    /** "with 5000 points or more at the end of a game" */
    private static void fiveThousandPoints() {
        for (int tens = 499; tens <= 501; tens++) {
            Tiltcourt x = drop();
            Checks.ruleIf(x, "0=0", 0, 's', 1, "p" + tens, "+1");
            Checks.start(x, 1);
            x.tick(5);
            Checks.same("no credit in the game", x.coin(2), 1);
            x.tick(1);
            Checks.same("10 times " + tens, x.coin(2), tens < 500 ? 2 : 3);
        }
        Tiltcourt paid = drop();
        Checks.ruleIf(paid, "0=5", 0, 's', 1, "B50");
        Checks.rule(paid, 0, 's', 1, "+1");
        Checks.start(paid, 1);
        paid.tick(6);
        Checks.same("the bonus of the last ball counts", paid.points(0), 5000);
        Checks.same("a credit", paid.coin(1), 1);
    }

    /** "A player .. gets a credit": each of those who have 5000. */
    private static void aCreditForEachWhoHasThem() {
        Tiltcourt x = drop();
        Checks.ruleIf(x, "0=0", 0, 's', 1, "p500", "+1");
        Checks.start(x, 4);
        x.tick(100);
        Checks.same("over", x.player(), -1);
        for (int i = 0; i < 4; i++) {
            Checks.same("points", x.points(i), 5000);
        }
        Checks.same("four credits", x.coin(1), 4);
        Tiltcourt y = drop();
        Checks.ruleIf(y, "0=4", 0, 's', 1, "p500");
        Checks.rule(y, 0, 's', 1, "+1");
        Checks.start(y, 3);
        for (int i = 0; i < 17 && y.player() >= 0; i++) {
            // the player 1 tilts all balls, each of which takes one tick then
            if (y.player() == 1) {
                tilt(y);
            }
            y.tick(1);
        }
        Checks.same("over", y.player(), -1);
        Checks.same("points of 1", y.points(1), 0);
        Checks.same("points of 2", y.points(2), 5000);
        Checks.same("two credits", y.coin(1), 2);
        Checks.same("points of games that are over", y.audit(4), 10000);
    }

    /** "no rule is done until the ball has ended": of no trigger, while events of places are given and counted */
    private static void noRuleInATilt() {
        Tiltcourt x = Checks.table("p p p d", 0, 1, 12, 1, 2, 11, 2, 3, 200);
        Checks.ruleIf(x, "0=0", 0, 's', 1, "S1", "T5", "+1");
        Checks.rule(x, 1, 'b', 0, "T6");
        Checks.rule(x, 0, 's', 2, "p1", "S2", "l1", "L0");
        Checks.rule(x, 0, 't', 0, "p10", "B1");
        Checks.rule(x, 1, 't', 0, "p100", "=9");
        Checks.start(x, 1);
        x.tick(1);
        Checks.same("1 runs", x.runs(1), true);
        tilt(x);
        Checks.same("events", x.tick(20), 1);
        Checks.same("points", x.points(0), 0);
        Checks.same("lamps", x.lamps(0), 0);
        Checks.same("bonus", x.bonus(), 0);
        Checks.same("variable", x.variable(0, 0), 1);
        Checks.same("2 does not run", x.runs(2), false);
        Checks.same("1 still runs", x.runs(1), true);
        Checks.same("no ball was launched", x.state(1), '-');
    }

    /** "the bonus times the multiplier is added to the points, if it is not tilted" */
    private static void noBonusInATilt() {
        Tiltcourt x = Checks.table("p p d", 0, 1, 12, 1, 2, 11);
        Checks.rule(x, 0, 's', 1, "m3", "B7");
        Checks.start(x, 1);
        x.tick(1);
        tilt(x);
        Checks.same("the bonus is there", x.bonus(), 700);
        x.tick(1);
        Checks.same("the ball has ended", x.ball(), 2);
        Checks.same("not paid", x.points(0), 0);
        Checks.same("nor kept", x.bonus(), 0);
    }

    /** "until the ball has ended" */
    private static void aTiltEndsWithItsBall() {
        Tiltcourt x = drop();
        Checks.rule(x, 0, 's', 1, "p1");
        Checks.start(x, 1);
        tilt(x);
        x.tick(1);
        Checks.same("the next ball", x.ball(), 2);
        Checks.same("no points in the tilt", x.points(0), 0);
        Checks.same("swing 3", x.push(), '-');
        Checks.same("flippers", x.press(0), true);
        x.tick(1);
        Checks.same("rules are done", x.points(0), 10);
        Checks.same("saved", x.ball(), 2);
        x.tick(1);
        tilt(x);
        x.tick(1);
        Checks.same("over in a tilt", x.player(), -1);
        Checks.start(x, 1);
        Checks.same("the next game is not tilted", x.push(), '-');
        x.tick(1);
        Checks.same("rules are done", x.points(0), 10);
    }

    /** The document takes an extra ball from nobody. */
    private static void extraBallInATilt() {
        Tiltcourt x = Checks.table("p p d", 0, 1, 12, 1, 2, 11);
        Checks.ruleIf(x, "0=0", 0, 's', 1, "E0", "+1");
        Checks.start(x, 2);
        x.tick(1);
        tilt(x);
        x.tick(1);
        Checks.same("the same player", x.player(), 0);
        Checks.same("the same number", x.ball(), 1);
        x.tick(4);
        Checks.same("then the other", x.player(), 1);
    }
}
