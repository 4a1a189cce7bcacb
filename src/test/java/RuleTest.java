/** Promises 7 to 10: rank, rule, condition, action; and how rules are done. */
public final class RuleTest {
    public static void main(String[] args) {
        ranks();
        rules();
        conditions();
        actions();
        conditionsHold();
        pointsAndVariables();
        lampsAndBonus();
        ranksAndEating();
        turnsOfModes();
        timers();
        mainModeTimer();
        beginnings();
        twentyEvents();
        gates();
        eachActionAlone();
        endedTimer();
        timersOfTheLastBall();
        timerOfTheLastGame();
        Checks.end("RuleTest");
    }

    private static void ranks() {
        Tiltcourt x = new Tiltcourt();
        Checks.fails("mode -1", IndexOutOfBoundsException.class, () -> x.rank(-1, 0));
        Checks.fails("mode 6", IndexOutOfBoundsException.class, () -> x.rank(6, 10));
        Checks.fails("rank -1", IllegalArgumentException.class, () -> x.rank(0, -1));
        Checks.fails("rank 10", IllegalArgumentException.class, () -> x.rank(5, 10));
        Checks.same("rank", x.rank(5, 9), 0);
        Checks.same("rank", x.rank(5, 0), 9);
        Checks.same("rank", x.rank(0, 4), 0);
        Checks.same("rank", x.rank(0, 4), 4);
    }

    private static void rules() {
        Tiltcourt x = Checks.lanes(Checks.machine("pd"), 0, 1, 100);
        Class<? extends RuntimeException> argument = IllegalArgumentException.class;
        Checks.fails("mode -1", IndexOutOfBoundsException.class, () -> x.rule(-1, 's', 0, true));
        Checks.fails("mode 6", IndexOutOfBoundsException.class, () -> x.rule(6, 'x', 0, true));
        Checks.fails("trigger x", argument, () -> x.rule(0, 'x', 0, true));
        Checks.fails("trigger S", argument, () -> x.rule(0, 'S', 0, true));
        Checks.fails("s of place -1", argument, () -> x.rule(0, 's', -1, true));
        Checks.fails("s of place 2", argument, () -> x.rule(0, 's', 2, true));
        Checks.fails("t of 1", argument, () -> x.rule(0, 't', 1, true));
        Checks.fails("b of 1", argument, () -> x.rule(0, 'b', 1, true));
        Checks.fails("b of -1", argument, () -> x.rule(0, 'b', -1, true));
        for (int i = 0; i < 24; i++) {
            Checks.same("rule", x.rule(i % 6, "stb".charAt(i % 3), i % 3 == 0 ? 1 : 0, i % 2 == 0), i);
        }
        Checks.fails("a 25th rule", IllegalStateException.class, () -> x.rule(0, 't', 0, true));
        Checks.fails("a 25th rule of 1", argument, () -> x.rule(0, 't', 1, true));

        Tiltcourt on = Checks.lanes(Checks.machine("pd"), 0, 1, 100);
        on.rule(0, 's', 1, false);
        Checks.start(on, 1);
        Checks.fails("a rule in a game", IllegalStateException.class, () -> on.rule(0, 't', 0, true));
        Checks.fails("a condition in a game", IllegalStateException.class, () -> on.condition(0, 0, '<', 0));
        Checks.fails("a condition of 1000 in a game", argument, () -> on.condition(0, 0, '<', 1000));
        Checks.fails("an action in a game", IllegalStateException.class, () -> on.action(0, 'p', 1));
        Checks.fails("an action of 0 in a game", argument, () -> on.action(0, 'p', 0));
        Checks.same("a rank in a game", on.rank(0, 3), 0);
    }

    private static void conditions() {
        Tiltcourt x = Checks.machine("pd");
        Class<? extends RuntimeException> argument = IllegalArgumentException.class;
        x.rule(0, 's', 0, false);
        x.rule(1, 's', 0, false);
        Checks.fails("rule -1", IndexOutOfBoundsException.class, () -> x.condition(-1, 0, '<', 0));
        Checks.fails("rule 2", IndexOutOfBoundsException.class, () -> x.condition(2, 6, '<', 0));
        Checks.fails("variable -1", argument, () -> x.condition(0, -1, '<', 0));
        Checks.fails("variable 6", argument, () -> x.condition(0, 6, '<', 0));
        Checks.fails("sign !", argument, () -> x.condition(0, 0, '!', 0));
        Checks.fails("number -1000", argument, () -> x.condition(0, 0, '<', -1000));
        Checks.fails("number 1000", argument, () -> x.condition(0, 0, '<', 1000));
        Checks.same("condition", x.condition(1, 5, '<', -999), 1);
        Checks.same("condition in place of another", x.condition(1, 0, '=', 999), 1);
        Checks.same("condition", x.condition(0, 0, '>', 0), 2);
    }

    private static void actions() {
        Tiltcourt x = Checks.machine("phgd");
        for (int i = 0; i < 24; i++) {
            x.rule(0, 's', 0, false);
        }
        Checks.fails("rule -1", IndexOutOfBoundsException.class, () -> x.action(-1, 'p', 1));
        Checks.fails("rule 24", IndexOutOfBoundsException.class, () -> x.action(24, '?', 1));
        Checks.fails("kind ?", IllegalArgumentException.class, () -> x.action(0, '?', 1));
        Checks.fails("kind M", IllegalArgumentException.class, () -> x.action(0, 'M', 1));
        range(x, 0, 'p', 1, 999);
        range(x, 1, 'B', 1, 999);
        range(x, 2, 'T', 1, 999);
        range(x, 3, 'm', 1, 9);
        range(x, 4, '=', -99, 99);
        range(x, 5, '+', -99, 99);
        range(x, 6, 'l', 0, 15);
        range(x, 7, 'o', 0, 15);
        range(x, 8, 'S', 1, 5);
        range(x, 9, 'X', 1, 5);
        range(x, 10, 'E', 0, 0);
        range(x, 11, 'L', 0, 0);
        range(x, 12, 'k', 1, 1);
        range(x, 13, 'g', 2, 2);
        range(x, 14, 'c', 2, 2);
        Checks.same("a 3rd action", x.action(14, 'E', 0), 3);
        Checks.same("a 4th action", x.action(14, 'E', 0), 4);
        Checks.fails("a 5th action", IllegalStateException.class, () -> x.action(14, 'E', 0));
        Checks.fails("a 5th action of 1", IllegalArgumentException.class, () -> x.action(14, 'E', 1));
        Checks.fails("a place that is not there now", IllegalArgumentException.class, () -> x.action(20, 'k', 4));
        x.place('h', 0);
        Checks.same("the place that is there now", x.action(20, 'k', 4), 1);
    }

    private static void range(Tiltcourt x, int rule, char kind, int low, int high) {
        Checks.fails(kind + " below", IllegalArgumentException.class, () -> x.action(rule, kind, low - 1));
        Checks.fails(kind + " above", IllegalArgumentException.class, () -> x.action(rule, kind, high + 1));
        Checks.same(kind + " lowest", x.action(rule, kind, low), 1);
        Checks.same(kind + " highest", x.action(rule, kind, high), 2);
    }

    /** A ball that passes the place 1 in each tick, by a lane of length 1 at any speed. */
    private static Tiltcourt circle() {
        return Checks.lanes(Checks.machine("ppd"), 0, 1, 12, 1, 1, 1);
    }

    private static void conditionsHold() {
        Tiltcourt x = circle();
        Checks.rule(x, 0, 's', 1, "+1");
        int less = Checks.rule(x, 0, 's', 1, "p1");
        int equal = Checks.rule(x, 0, 's', 1, "p10");
        int greater = Checks.rule(x, 0, 's', 1, "p100");
        x.condition(less, 0, '<', 2);
        x.condition(equal, 0, '=', 2);
        x.condition(greater, 0, '>', 2);
        Checks.start(x, 1);
        x.tick(1);
        Checks.same("points by <", x.points(0), 10);
        x.tick(1);
        Checks.same("points by =", x.points(0), 110);
        x.tick(1);
        Checks.same("points by >", x.points(0), 1110);
    }

    private static void pointsAndVariables() {
        Tiltcourt x = circle();
        int first = Checks.rule(x, 0, 's', 1, "p2", "m3", "p2", "=-7");
        int second = Checks.rule(x, 0, 's', 1, "+-2", "+5");
        x.condition(second, 4, '<', 1);
        Checks.rule(x, 0, 's', 1, "+9");
        Checks.start(x, 2);
        x.tick(1);
        Checks.same("points with a multiplier from its action on", x.points(0), 20 + 60);
        Checks.same("variable 4, of the condition", x.variable(0, 4), 3);
        Checks.same("variable 0, without one", x.variable(0, 0), 2);
        Checks.same("variable of another player", x.variable(1, 4), 0);
        x.tick(1);
        Checks.same("points by the multiplier kept", x.points(0), 80 + 120);
        Checks.same("variable 4, the condition does not hold", x.variable(0, 4), 3);
        Checks.same("variable 0, set and made greater", x.variable(0, 0), 2);
        Checks.same("rule", first, 0);
        Checks.same("isConsistent", x.isConsistent(), true);
    }

    private static void lampsAndBonus() {
        Tiltcourt x = circle();
        Checks.rule(x, 0, 's', 1, "l0", "l15", "l3", "o3");
        Checks.rule(x, 0, 's', 1, "o7", "l15", "B999", "m5");
        Checks.start(x, 1);
        x.tick(1);
        Checks.same("lamps", x.lamps(0), 0x8001);
        Checks.same("bonus without the multiplier", x.bonus(), 99900);
        x.tick(1);
        Checks.same("bonus", x.bonus(), 199800);
    }

    private static void ranksAndEating() {
        Tiltcourt x = circle();
        Checks.rule(x, 0, 's', 1, "S1", "S2", "=0");
        Checks.rule(x, 1, 's', 1, "=1", "p1");
        Checks.eater(x, 2, 's', 1, "+2", "p10");
        Checks.rule(x, 2, 's', 1, "+4", "p100");
        x.rank(1, 5);
        x.rank(2, 4);
        Checks.start(x, 1);
        x.tick(1);
        Checks.same("modes that begin do not get the event", x.points(0), 0);
        x.tick(1);
        Checks.same("1 by rank, then 2, whose eating keeps it from 0", x.variable(0, 0), 7);
        Checks.same("all rules of the mode that eats", x.points(0), 1110);
        x.rank(0, 9);
        x.tick(1);
        Checks.same("0 first by rank", x.variable(0, 0), 7);
        x.rank(2, 6);
        x.tick(1);
        Checks.same("0 first, then 2 that eats", x.variable(0, 0), 6);

        Tiltcourt same = circle();
        int eats = Checks.eater(same, 0, 's', 1, "S3");
        same.condition(eats, 5, '<', 0);
        Checks.rule(same, 0, 's', 1, "S3", "=1");
        Checks.rule(same, 3, 's', 1, "+10");
        Checks.start(same, 1);
        same.tick(2);
        Checks.same("of the same rank by numbers; what is not done does not eat", same.variable(0, 0), 11);
    }

    private static void turnsOfModes() {
        Tiltcourt x = circle();
        Checks.rule(x, 0, 's', 1, "S1", "S2");
        Checks.rule(x, 1, 's', 1, "X2", "X1", "p1");
        Checks.rule(x, 1, 's', 1, "p10");
        Checks.rule(x, 2, 's', 1, "p100");
        x.rank(1, 2);
        x.rank(2, 1);
        Checks.start(x, 1);
        x.tick(2);
        Checks.same("a mode ended before its turn; all rules of one that ends", x.points(0), 110);
        Checks.same("1 begun again", x.runs(1), true);
        Checks.same("2 begun again", x.runs(2), true);
        Checks.same("0", x.runs(0), true);
        Checks.same("3", x.runs(3), false);
        Checks.fails("runs of -1", IndexOutOfBoundsException.class, () -> x.runs(-1));
        Checks.fails("runs of 6", IndexOutOfBoundsException.class, () -> x.runs(6));
    }

    private static void timers() {
        Tiltcourt x = Checks.lanes(Checks.machine("ppd"), 0, 1, 12, 1, 1, 200);
        Checks.rule(x, 0, 's', 1, "S1", "S2");
        Checks.rule(x, 1, 'b', 0, "T3");
        Checks.rule(x, 1, 't', 0, "p1", "S3");
        Checks.rule(x, 2, 'b', 0, "T4");
        Checks.rule(x, 2, 't', 0, "p100");
        Checks.rule(x, 3, 'b', 0, "p10", "X2");
        Checks.start(x, 1);
        x.tick(3);
        Checks.same("a timer of 3 after 2 ticks", x.points(0), 0);
        Checks.same("events of timers do not count", x.tick(1), 0);
        Checks.same("after 3 ticks, with the mode that begins", x.points(0), 110);
        x.tick(5);
        Checks.same("a mode ends with its timer", x.points(0), 110);
        Checks.same("a timer's end does not end the mode", x.runs(1), true);

        Tiltcourt late = circle();
        int begin = Checks.rule(late, 0, 's', 1, "S1");
        late.condition(begin, 1, '=', 0);
        int end = Checks.rule(late, 1, 's', 1, "X1", "T2", "+1");
        late.condition(end, 1, '=', 0);
        int again = Checks.rule(late, 0, 's', 1, "+1", "S1");
        late.condition(again, 1, '>', 0);
        Checks.rule(late, 1, 't', 0, "p7");
        late.rank(1, 1);
        Checks.start(late, 1);
        late.tick(2);
        Checks.same("variable 1", late.variable(0, 1), 2);
        Checks.same("begun again", late.runs(1), true);
        late.tick(1);
        Checks.same("a timer runs while its mode runs", late.points(0), 0);
        late.tick(1);
        Checks.same("and comes to 0", late.points(0), 70);
        late.tick(9);
        Checks.same("once", late.points(0), 70);
    }

    private static void mainModeTimer() {
        Tiltcourt y = Checks.lanes(Checks.machine("pd"), 0, 1, 12);
        int once = Checks.rule(y, 0, 's', 1, "T4", "+1");
        y.condition(once, 0, '=', 0);
        Checks.rule(y, 0, 't', 0, "p5");
        Checks.start(y, 1);
        y.tick(4);
        Checks.same("ball", y.ball(), 3);
        Checks.same("before it runs out", y.points(0), 0);
        y.tick(1);
        Checks.same("the timer of the mode 0 goes on over balls", y.points(0), 50);
    }

    private static void beginnings() {
        Tiltcourt x = circle();
        Checks.rule(x, 0, 'b', 0, "p999");
        Checks.rule(x, 0, 's', 1, "S2", "S1");
        Checks.rule(x, 1, 'b', 0, "=1", "p1");
        Checks.rule(x, 2, 'b', 0, "=2", "p10");
        x.rank(1, 9);
        Checks.start(x, 1);
        x.tick(1);
        Checks.same("by the order in which they began", x.variable(0, 0), 1);
        Checks.same("each", x.points(0), 110);
        x.tick(1);
        Checks.same("a mode that runs does not begin", x.points(0), 110);
    }

    private static void twentyEvents() {
        Tiltcourt x = circle();
        Checks.rule(x, 0, 's', 1, "S1");
        Checks.rule(x, 1, 'b', 0, "X1", "S1", "p1");
        Checks.start(x, 1);
        Checks.same("events of places", x.tick(1), 1);
        Checks.same("19 beginnings behind the place", x.points(0), 190);
        x.tick(1);
        Checks.same("others were lost", x.points(0), 190);
        Checks.same("but it runs", x.runs(1), true);
    }

    private static void gates() {
        Tiltcourt x = Checks.lanes(Checks.machine("pgppd"),
                0, 1, 12, 1, 2, 11, 1, 3, 11, 2, 1, 10, 3, 1, 10);
        Checks.rule(x, 0, 's', 3, "g1");
        Checks.rule(x, 0, 's', 2, "c1");
        Checks.start(x, 1);
        x.tick(1);
        Checks.same("closed at first: the lane 1", x.at(0), 3);
        x.tick(2);
        Checks.same("open: the lane 0", x.at(0), 2);
        x.tick(4);
        Checks.same("closed again: the lane 1", x.at(0), 3);
    }

    /** Each action changes what it tells, and nothing else that can be asked. */
    private static void eachActionAlone() {
        String actions = "p2 m2 =5 +5 l3 l2 o3 k3 g2 c2 S4 X4 T9 B2 E0 L0";
        for (String action : actions.split(" ")) {
            char kind = action.charAt(0);
            Tiltcourt x = Checks.lanes(Checks.machine("ppghd"),
                    0, 1, 12, 1, 4, 100, 2, 4, 9, 2, 4, 9, 3, 4, 9);
            Checks.rule(x, 0, 's', 1, "l1", "l3", action);
            Checks.start(x, 1);
            x.tick(1);
            Checks.same("points by " + action, x.points(0), kind == 'p' ? 20 : 0);
            Checks.same("variable by " + action, x.variable(0, 0), kind == '=' || kind == '+' ? 5 : 0);
            Checks.same("lamps by " + action, x.lamps(0), action.equals("o3") ? 2 : action.equals("l2") ? 14 : 10);
            Checks.same("the mode 4 by " + action, x.runs(4), kind == 'S');
            Checks.same("the mode 3 by " + action, x.runs(3), false);
            Checks.same("bonus by " + action, x.bonus(), kind == 'B' ? 200 : 0);
            Checks.same("the ball 0 by " + action, x.left(0), 10);
            Checks.same("the ball 1 by " + action, x.state(1), kind == 'L' ? 'l' : '-');
            Checks.same("heat by " + action, x.heat(3), 0);
            for (int i = 0; i < 100 && x.audit(1) == 0; i++) {
                x.tick(1);
            }
            Checks.same("the next ball by " + action, x.ball(), kind == 'E' ? 1 : 2);
        }
    }

    private static void endedTimer() {
        Tiltcourt x = circle();
        Checks.rule(x, 0, 's', 1, "+1");
        on(x, Checks.rule(x, 0, 's', 1, "S1"), 1);
        on(x, Checks.rule(x, 0, 's', 1, "X1"), 3);
        on(x, Checks.rule(x, 0, 's', 1, "S1"), 4);
        on(x, Checks.rule(x, 1, 's', 1, "T5"), 2);
        Checks.rule(x, 1, 't', 0, "p1");
        Checks.start(x, 1);
        x.tick(4);
        Checks.same("begun again", x.runs(1), true);
        x.tick(20);
        Checks.same("a timer ended with its mode does not go on", x.points(0), 0);
    }

    private static void on(Tiltcourt x, int rule, int count) {
        x.condition(rule, 0, '=', count);
    }

    private static void timersOfTheLastBall() {
        Tiltcourt x = Checks.lanes(Checks.machine("pd"), 0, 1, 12);
        Checks.rule(x, 0, 's', 1, "+1");
        on(x, Checks.rule(x, 0, 's', 1, "S1"), 1);
        Checks.rule(x, 1, 'b', 0, "T3");
        on(x, Checks.rule(x, 0, 's', 1, "S1"), 3);
        Checks.rule(x, 1, 't', 0, "p1");
        Checks.start(x, 1);
        x.tick(3);
        Checks.same("begun again in the next ball", x.runs(1), true);
        x.tick(2);
        Checks.same("its new timer does not run out before its end", x.points(0), 0);
    }

    private static void timerOfTheLastGame() {
        Tiltcourt x = Checks.lanes(Checks.machine("pd"), 0, 1, 12);
        Checks.rule(x, 0, 's', 1, "+1");
        on(x, Checks.rule(x, 0, 's', 1, "T3"), 6);
        Checks.rule(x, 0, 't', 0, "p1");
        Checks.start(x, 1);
        x.tick(100);
        Checks.same("over", x.player(), -1);
        Checks.start(x, 1);
        x.tick(5);
        Checks.same("the mode 0 ended with its timer", x.points(0), 0);
    }
}
