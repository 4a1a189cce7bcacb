/** Coins, games, pushes and what is told of them: promises 11 to 21, 25 and 28. */
public final class GameTest {
    public static void main(String[] args) {
        coins();
        begins();
        turns();
        savingBalls();
        sixtyTicks();
        bonusAndMultiplier();
        extraBalls();
        manyBalls();
        whatAPlayerKeeps();
        whatABallForgets();
        credits();
        wrongTicks();
        pushes();
        swingFades();
        tilt();
        playersAsked();
        nextBallIsFresh();
        warningMakesSwingZero();
        swingOfOneFades();
        firstVariable();
        Checks.end("GameTest");
    }

    /** Each ball takes so many ticks to the drain, by a lane of 12 times that length at most 16. */
    private static Tiltcourt drop(int ticks) {
        return Checks.lanes(Checks.machine("pd"), 0, 1, 12 * ticks);
    }

    /** A ball comes to a hole in the tick 1, is kicked by the mode's timer, and drains so many ticks later. */
    private static Tiltcourt slow(int timer) {
        Tiltcourt x = Checks.lanes(Checks.machine("phd"), 0, 1, 12, 1, 2, 8);
        Checks.rule(x, 0, 's', 1, "T" + timer);
        Checks.rule(x, 0, 't', 0, "k1");
        return x;
    }

    private static void coins() {
        Tiltcourt x = new Tiltcourt();
        Checks.fails("coin 0", IllegalArgumentException.class, () -> x.coin(0));
        Checks.fails("coin 21", IllegalArgumentException.class, () -> x.coin(21));
        Checks.fails("coin -1", IllegalArgumentException.class, () -> x.coin(-1));
        Checks.same("coin", x.coin(1), 0);
        Checks.same("coin", x.coin(1), 1);
        Checks.same("coin", x.coin(3), 2);
        Checks.same("coin", x.coin(20), 12);
        Checks.same("coin", x.coin(1), 13);
        Checks.same("audit of coins", x.audit(3), 26);
    }

    private static void begins() {
        Tiltcourt x = Checks.machine("p");
        x.lane(0, 0, 200);
        Checks.fails("0 players", IllegalArgumentException.class, () -> x.begin(0));
        Checks.fails("5 players", IllegalArgumentException.class, () -> x.begin(5));
        Checks.fails("a table that is not whole", IllegalStateException.class, () -> x.begin(1));
        x.place('d', 0);
        Checks.fails("no credits", UnsupportedOperationException.class, () -> x.begin(1));
        x.coin(6);
        Checks.fails("3 credits for 4", UnsupportedOperationException.class, () -> x.begin(4));
        Checks.same("audit of games", x.audit(0), 0);
        Checks.same("begin", x.begin(2), 1);
        Checks.same("audit of games", x.audit(0), 1);
        Checks.same("runs", x.runs(0), true);
        Checks.fails("a game is on", IllegalStateException.class, () -> x.begin(1));
        Checks.fails("a game is on for 4", IllegalStateException.class, () -> x.begin(4));
        Checks.fails("a game is on for 5", IllegalArgumentException.class, () -> x.begin(5));
        Checks.same("coin in a game", x.coin(2), 2);
    }

    private static void turns() {
        Tiltcourt x = drop(1);
        Checks.start(x, 3);
        Checks.same("player", x.player(), 0);
        for (int ball = 1; ball <= 3; ball++) {
            for (int player = 0; player < 3; player++) {
                Checks.same("player", x.player(), player);
                Checks.same("ball", x.ball(), ball);
                Checks.same("saved", x.tick(1), 1);
                Checks.same("player", x.player(), player);
                Checks.same("ended", x.tick(1), 1);
            }
        }
        Checks.same("player without a game", x.player(), -1);
        Checks.same("ball without a game", x.ball(), 0);
        Checks.same("runs without a game", x.runs(0), false);
        Checks.same("audit of balls", x.audit(1), 9);
        Checks.same("share of saved balls", x.savedShare(), 0.5);
        Checks.fails("tick without a game", IllegalStateException.class, () -> x.tick(1));
    }

    private static void savingBalls() {
        Tiltcourt x = drop(10);
        Checks.start(x, 1);
        x.tick(9);
        Checks.same("left", x.left(0), 1);
        x.tick(1);
        Checks.same("launched again", x.left(0), 10);
        Checks.same("no ball has ended", x.audit(1), 0);
        x.tick(10);
        Checks.same("saved once", x.audit(1), 1);
        Checks.same("the next ball", x.ball(), 2);
        Checks.same("stops when the game is over", x.tick(100), 4);
        Checks.same("the game is over", x.ball(), 0);
    }

    private static void sixtyTicks() {
        // the timer set in the tick 1 runs out 57 or 58 ticks later, and the lane takes 1 more
        Tiltcourt saved = slow(57);
        Checks.start(saved, 1);
        saved.tick(59);
        Checks.same("home at the tick 59", saved.audit(1), 0);
        Checks.same("launched again", saved.state(0), 'l');
        Tiltcourt ended = slow(58);
        Checks.start(ended, 1);
        ended.tick(59);
        Checks.same("no end yet", ended.audit(1), 0);
        ended.tick(1);
        Checks.same("home at the tick 60", ended.audit(1), 1);
        Checks.same("ball", ended.ball(), 2);
        Checks.same("none was saved", ended.savedShare(), 0.0);
        Checks.same("events of the next ball", ended.tick(59), 1);
        Checks.same("its ticks count anew", ended.ball(), 2);
        ended.tick(1);
        Checks.same("ball", ended.ball(), 3);
    }

    private static void bonusAndMultiplier() {
        Tiltcourt x = drop(5);
        int first = Checks.rule(x, 0, 's', 1, "m3", "B2", "+1");
        x.condition(first, 0, '<', 2);
        Checks.start(x, 1);
        Checks.same("bonus", x.bonus(), 0);
        x.tick(5);
        Checks.same("bonus", x.bonus(), 200);
        Checks.same("a saved ball pays nothing", x.points(0), 0);
        x.tick(5);
        Checks.same("bonus times the multiplier", x.points(0), 1200);
        Checks.same("bonus of the next ball", x.bonus(), 0);
        x.tick(100);
        Checks.same("over", x.player(), -1);
        Checks.same("bonus without a game", x.bonus(), 0);
        Checks.same("points of the last game", x.points(0), 1200);
        Checks.same("mean points", x.meanPoints(), 1200.0);
        Checks.same("audit of points", x.audit(4), 1200);
        Checks.same("isConsistent", x.isConsistent(), true);
    }

    private static void extraBalls() {
        Tiltcourt x = drop(1);
        int rule = Checks.rule(x, 0, 's', 1, "E0", "+1");
        x.condition(rule, 0, '<', 3);
        Checks.start(x, 2);
        x.tick(2);
        Checks.same("once for a ball", x.ball(), 1);
        Checks.same("this player's", x.player(), 0);
        Checks.same("variable", x.variable(0, 0), 2);
        Checks.same("audit of balls", x.audit(1), 1);
        x.tick(2);
        Checks.same("another for the next ball", x.player(), 0);
        Checks.same("audit of balls", x.audit(1), 2);
        x.tick(2);
        Checks.same("then the other's", x.player(), 1);
        Checks.same("ball", x.ball(), 1);
        Checks.same("audit of balls", x.audit(1), 3);
        x.tick(6);
        Checks.same("the other has his own", x.player(), 0);
        Checks.same("ball", x.ball(), 2);
        Checks.same("to the end", x.tick(100), 8);
        Checks.same("audit of balls", x.audit(1), 10);
    }

    private static void manyBalls() {
        Tiltcourt x = Checks.lanes(Checks.machine("ppd"), 0, 1, 12, 1, 2, 220 - 22);
        Checks.rule(x, 0, 's', 1, "L0");
        Checks.start(x, 1);
        x.tick(1);
        Checks.same("launched by a rule", x.state(1), 'l');
        Checks.same("its place", x.at(1), 1);
        Checks.same("its ticks are all to go", x.left(1), 1);
        x.tick(3);
        Checks.same("4 balls at most", x.state(3), 'l');
        Checks.same("left of the ball 0", x.left(0), 15);
        x.tick(15);
        Checks.same("the lowest is home", x.state(0), '-');
        Checks.same("others go on", x.ball(), 1);
        x.tick(3);
        Checks.same("launched again when all are home", x.state(0), 'l');
        Checks.same("the others are home", x.state(1), '-');
        Checks.same("no end", x.audit(1), 0);
    }

    private static void whatAPlayerKeeps() {
        Tiltcourt x = drop(1);
        int rule = Checks.rule(x, 0, 's', 1, "+7", "l4", "p3");
        x.condition(rule, 5, '<', 20);
        Checks.start(x, 2);
        x.tick(4);
        Checks.same("variable of 0", x.variable(0, 5), 14);
        Checks.same("variable of 1", x.variable(1, 5), 14);
        x.tick(2);
        Checks.same("variable goes on", x.variable(0, 5), 21);
        Checks.same("points go on", x.points(0), 90);
        Checks.same("lamps go on", x.lamps(0), 16);
        x.tick(100);
        Checks.same("variable of the last game", x.variable(1, 5), 21);
        Checks.same("lamps of the last game", x.lamps(1), 16);
        Checks.start(x, 1);
        Checks.same("variable of a new game", x.variable(0, 5), 0);
        Checks.same("lamps of a new game", x.lamps(0), 0);
        Checks.same("points of a new game", x.points(0), 0);
        Checks.fails("no such player in this game", IndexOutOfBoundsException.class, () -> x.points(1));
        Checks.same("isConsistent", x.isConsistent(), true);
    }

    private static void whatABallForgets() {
        Tiltcourt x = Checks.lanes(Checks.machine("pgd"), 0, 1, 12, 1, 2, 200, 1, 2, 11);
        int rule = Checks.rule(x, 0, 's', 2, "m5", "g1", "S1");
        x.condition(rule, 0, '=', 0);
        int timer = Checks.rule(x, 0, 's', 2, "S2", "+1");
        x.condition(timer, 0, '=', 0);
        Checks.rule(x, 2, 'b', 0, "T30");
        Checks.rule(x, 2, 't', 0, "p999");
        Checks.start(x, 1);
        x.tick(2);
        Checks.same("saved: modes go on", x.runs(1) && x.runs(2), true);
        x.tick(1);
        Checks.same("the gate is open still", x.left(0), 19);
        x.tick(19);
        Checks.same("ball", x.ball(), 2);
        Checks.same("modes have ended", x.runs(1) || x.runs(2), false);
        Checks.same("but for 0", x.runs(0), true);
        x.tick(1);
        Checks.same("the gate is closed", x.left(0), 1);
        x.tick(50);
        Checks.same("timers have ended", x.points(0), 0);
    }

    private static void credits() {
        Tiltcourt x = drop(1);
        int rule = Checks.rule(x, 0, 's', 1, "p499", "+1");
        x.condition(rule, 0, '<', 1);
        Checks.start(x, 1);
        x.tick(100);
        Checks.same("4990 points", x.points(0), 4990);
        Checks.same("no credit", x.coin(2), 1);

        Tiltcourt y = drop(1);
        int enough = Checks.rule(y, 0, 's', 1, "p500", "+1");
        y.condition(enough, 0, '<', 1);
        Checks.start(y, 3);
        y.tick(100);
        Checks.same("5000 points", y.points(2), 5000);
        Checks.same("a credit for each", y.coin(1), 3);
        Checks.same("mean points", y.meanPoints(), 5000.0);
    }

    private static void wrongTicks() {
        Tiltcourt x = drop(16);
        Checks.fails("tick 0 without a game", IllegalArgumentException.class, () -> x.tick(0));
        Checks.fails("tick 1 without a game", IllegalStateException.class, () -> x.tick(1));
        Checks.start(x, 1);
        Checks.fails("tick 0", IllegalArgumentException.class, () -> x.tick(0));
        Checks.fails("tick 101", IllegalArgumentException.class, () -> x.tick(101));
        Checks.same("left", x.left(0), 16);
        Checks.same("tick 100", x.tick(100), 6);
    }

    private static void pushes() {
        Tiltcourt x = drop(16);
        Checks.fails("push without a game", IllegalStateException.class, () -> x.push());
        Checks.start(x, 1);
        Checks.same("swing 3", x.push(), '-');
        Checks.same("swing 6", x.push(), 'w');
        Checks.same("swing 3", x.push(), '-');
        Checks.same("swing 6", x.push(), 'w');
        Checks.same("swing 3", x.push(), '-');
        x.press(1);
        Checks.same("no tilt yet", x.audit(2), 0);
        Checks.same("the third warning", x.push(), 't');
        Checks.same("audit of tilts", x.audit(2), 1);
        Checks.same("is tilted", x.push(), 't');
        Checks.same("once", x.audit(2), 1);
        Checks.same("flippers are down", x.letGo(1), false);
        Checks.same("and stay down", x.press(1), false);
        Checks.same("so that none is let go", x.letGo(1), false);
    }

    /** The swing is 3 by the first push; pushes after so many ticks tell how much is left. */
    private static void swingFades() {
        for (int ticks = 0; ticks <= 45; ticks++) {
            Tiltcourt x = slow(55);
            Checks.start(x, 1);
            x.push();
            if (ticks > 0) {
                x.tick(ticks);
            }
            Checks.same("the swing after " + ticks + " ticks", x.push(), ticks < 10 ? 'w' : '-');
            Checks.same("a third push after " + ticks + " ticks", x.push(), ticks < 10 ? '-' : 'w');
        }
        Tiltcourt x = slow(55);
        Checks.start(x, 1);
        x.tick(5);
        x.push();
        x.tick(5);
        Checks.same("by the ticks since the ball began", x.push(), '-');
    }

    private static void tilt() {
        Tiltcourt x = drop(16);
        Checks.rule(x, 0, 's', 1, "p5", "B3", "E0");
        Checks.start(x, 2);
        for (int i = 0; i < 6; i++) {
            x.push();
        }
        Checks.same("events are given", x.tick(16), 1);
        Checks.same("no rule is done, no ball is saved", x.player(), 1);
        Checks.same("points", x.points(0), 0);
        Checks.same("the next ball is not tilted", x.push(), '-');
        Checks.same("flippers come up again", x.press(0), true);
        x.tick(16);
        Checks.same("points of the next", x.points(1), 50);
        Checks.same("bonus of the next", x.bonus(), 300);
        for (int i = 0; i < 7; i++) {
            x.push();
        }
        x.tick(16);
        Checks.same("no bonus is paid", x.points(1), 50);
        Checks.same("but an extra ball is given", x.player(), 1);
        Checks.same("of the same number", x.ball(), 1);
        Checks.same("audit of tilts", x.audit(2), 2);
    }

    private static void playersAsked() {
        Tiltcourt x = drop(16);
        Class<? extends RuntimeException> index = IndexOutOfBoundsException.class;
        Checks.fails("points before a game", index, () -> x.points(0));
        Checks.fails("variable before a game", index, () -> x.variable(0, 0));
        Checks.fails("lamps before a game", index, () -> x.lamps(0));
        Checks.fails("mean points before a game", ArithmeticException.class, () -> x.meanPoints());
        Checks.fails("share before a game", ArithmeticException.class, () -> x.savedShare());
        Checks.start(x, 2);
        Checks.same("points", x.points(1), 0);
        Checks.same("mean points", x.meanPoints(), 0.0);
        Checks.fails("share before a ball's end", ArithmeticException.class, () -> x.savedShare());
        for (int player : new int[] {-1, 2, 3, 4, Integer.MAX_VALUE}) {
            Checks.fails("points of " + player, index, () -> x.points(player));
            Checks.fails("variable of " + player, index, () -> x.variable(player, 0));
            Checks.fails("lamps of " + player, index, () -> x.lamps(player));
        }
        Checks.fails("variable -1", index, () -> x.variable(0, -1));
        Checks.fails("variable 6", index, () -> x.variable(0, 6));
        Checks.same("variable 5", x.variable(1, 5), 0);
    }

    private static void nextBallIsFresh() {
        Tiltcourt x = drop(2);
        int rule = Checks.rule(x, 0, 's', 1, "m4", "+1");
        x.condition(rule, 0, '<', 2);
        Checks.rule(x, 0, 's', 1, "p1");
        Checks.start(x, 1);
        Checks.same("swing 3", x.push(), '-');
        Checks.same("the first warning", x.push(), 'w');
        x.push();
        Checks.same("the second warning", x.push(), 'w');
        Checks.same("swing 3", x.push(), '-');
        x.tick(4);
        Checks.same("ball", x.ball(), 2);
        Checks.same("points", x.points(0), 80);
        Checks.same("swing 3, not 6", x.push(), '-');
        Checks.same("the first warning again", x.push(), 'w');
        x.tick(2);
        Checks.same("the multiplier is 1", x.points(0), 90);
        Checks.same("no tilt", x.audit(2), 0);

        Tiltcourt y = drop(12);
        Checks.start(y, 1);
        y.tick(21);
        y.push();
        y.tick(3);
        Checks.same("ball", y.ball(), 2);
        Checks.same("swing 3", y.push(), '-');
        y.tick(10);
        Checks.same("swing 2 and 3", y.push(), '-');
    }

    private static void warningMakesSwingZero() {
        Tiltcourt x = slow(55);
        Checks.start(x, 1);
        x.push();
        x.push();
        x.push();
        x.tick(10);
        Checks.same("3, less 1, and 3", x.push(), '-');
    }

    private static void swingOfOneFades() {
        Tiltcourt x = slow(55);
        Checks.start(x, 1);
        x.push();
        x.tick(30);
        x.push();
        x.tick(10);
        Checks.same("0 and 3, less 1, and 3", x.push(), '-');
    }

    private static void firstVariable() {
        Tiltcourt x = drop(1);
        Checks.rule(x, 0, 's', 1, "+1");
        Checks.start(x, 1);
        x.tick(100);
        Checks.same("variable 0", x.variable(0, 0), 6);
        Checks.start(x, 1);
        Checks.same("variable 0 of a new game", x.variable(0, 0), 0);
    }
}
