/** The edges of rules, modes and actions, and of the promises 7 to 10, 20, 21 and 25, a method for each sentence. */
public final class EdgeRuleTest {
    private static final int[] FAR = {-1, Integer.MIN_VALUE, Integer.MAX_VALUE};

    public static void main(String[] args) {
        modesAndRanks();
        rankTellsTheOneBefore();
        modesAndTriggersOfRules();
        placeOfARule();
        twentyFourRules();
        noRuleInAGame();
        rulesOfConditions();
        partsOfConditions();
        conditionInPlaceOfAnother();
        noConditionInAGame();
        rulesOfActions();
        kindsOfActions();
        numbersOfActions();
        placesOfActions();
        fourActions();
        noActionInAGame();
        lessEqualGreater();
        numbersOfConditions();
        conditionHoldsThen();
        conditionOfALongGame();
        ruleWithoutActions();
        modesAtFirst();
        othersAfterAGame();
        modesToAsk();
        fallingRanksRisingNumbers();
        rankChangedInAGame();
        runsAsItIsLookedAt();
        runsWhenItsTurnComes();
        endedAndBegunBeforeItsTurn();
        timerEventToItsModeAlone();
        beginningToItsModeAlone();
        beginningOfAnEndedMode();
        allRulesOfAModeThatEnds();
        rulesByRisingNumbers();
        eatingKeepsItFromFurtherModes();
        eatingNeedsADoneRule();
        eatingOneEventOnly();
        Checks.end("EdgeRuleTest");
    }

    /** A ball that comes to the place 1 in each tick. */
    private static Tiltcourt circle() {
        return Checks.table("p p d", 0, 1, 12, 1, 1, 1);
    }

    /** "the mode, 0 to 5", "the rank, 0 to 9": no mode comes before no rank. */
    private static void modesAndRanks() {
        Tiltcourt x = new Tiltcourt();
        for (int far : FAR) {
            Checks.fails("mode " + far, Checks.INDEX, () -> x.rank(far, 0));
            Checks.fails("rank " + far, Checks.ARGUMENT, () -> x.rank(0, far));
            Checks.fails("mode and rank " + far, Checks.INDEX, () -> x.rank(far, far));
        }
        Checks.fails("mode 6", Checks.INDEX, () -> x.rank(6, 0));
        Checks.fails("mode 6, rank 10", Checks.INDEX, () -> x.rank(6, 10));
        Checks.fails("rank 10", Checks.ARGUMENT, () -> x.rank(0, 10));
        for (int mode = 0; mode < 6; mode++) {
            Checks.same("rank 9 of " + mode, x.rank(mode, 9), 0);
            Checks.same("rank 0 of " + mode, x.rank(mode, 0), 9);
        }
    }

    /** "Returns the one before.": a refused one is none. */
    private static void rankTellsTheOneBefore() {
        Tiltcourt x = new Tiltcourt();
        Checks.same("at first", x.rank(3, 7), 0);
        Checks.fails("rank 10", Checks.ARGUMENT, () -> x.rank(3, 10));
        Checks.same("not changed by a refused one", x.rank(3, 2), 7);
        Checks.same("the next", x.rank(3, 2), 2);
        Checks.same("of another mode", x.rank(2, 0), 0);
    }

    /** "if there is no such mode", "if there is no such trigger, .. or the number is not 0" */
    private static void modesAndTriggersOfRules() {
        Tiltcourt x = Checks.machine("pd");
        for (int far : FAR) {
            Checks.fails("mode " + far, Checks.INDEX, () -> x.rule(far, 's', 0, false));
            Checks.fails("mode and place " + far, Checks.INDEX, () -> x.rule(far, 's', far, false));
            Checks.fails("t of " + far, Checks.ARGUMENT, () -> x.rule(0, 't', far, false));
            Checks.fails("b of " + far, Checks.ARGUMENT, () -> x.rule(0, 'b', far, false));
        }
        Checks.fails("mode 6", Checks.INDEX, () -> x.rule(6, 's', 0, false));
        Checks.fails("mode 6, no trigger", Checks.INDEX, () -> x.rule(6, 'q', 0, false));
        Checks.fails("t of 1", Checks.ARGUMENT, () -> x.rule(0, 't', 1, false));
        Checks.fails("b of 1", Checks.ARGUMENT, () -> x.rule(0, 'b', 1, false));
        for (int i = 0; i < 300; i++) {
            char trigger = (char) i;
            if (trigger != 's' && trigger != 't' && trigger != 'b') {
                Checks.fails("trigger " + i, Checks.ARGUMENT, () -> x.rule(0, trigger, 0, false));
            }
        }
        for (int i = 0; i < 6; i++) {
            Checks.same("rule of the mode " + i, x.rule(i, "stb".charAt(i % 3), 0, false), i);
        }
    }

    /** "no such place now" */
    private static void placeOfARule() {
        Tiltcourt x = Checks.machine("pd");
        for (int far : FAR) {
            Checks.fails("place " + far, Checks.ARGUMENT, () -> x.rule(0, 's', far, false));
        }
        Checks.same("place 1", x.rule(0, 's', 1, false), 0);
        Checks.fails("place 2", Checks.ARGUMENT, () -> x.rule(0, 's', 2, false));
        x.place('h', 0);
        Checks.same("place 2, now there", x.rule(0, 's', 2, false), 1);
        for (int i = 3; i < 16; i++) {
            x.place('d', 0);
        }
        Checks.same("place 15", x.rule(0, 's', 15, false), 2);
        Checks.fails("place 16", Checks.ARGUMENT, () -> x.rule(0, 's', 16, false));
    }

    /** "At most 24 rules are numbered from 0", "if there are 24 rules" */
    private static void twentyFourRules() {
        Tiltcourt x = circle();
        for (int i = 0; i < 24; i++) {
            int next = i;
            Checks.fails("before it is there", Checks.INDEX, () -> x.action(next, 'p', 1));
            Checks.same("rule", x.rule(0, 's', 1, false), i);
            x.action(i, 'p', i + 1);
        }
        Checks.fails("a 25th", Checks.STATE, () -> x.rule(0, 's', 1, false));
        Checks.fails("a 25th of no mode", Checks.INDEX, () -> x.rule(6, 's', 1, false));
        Checks.fails("a 25th of no place", Checks.ARGUMENT, () -> x.rule(0, 's', 3, false));
        Checks.fails("a 25th of no trigger", Checks.ARGUMENT, () -> x.rule(0, 'x', 0, false));
        Checks.fails("an action of it", Checks.INDEX, () -> x.action(24, 'p', 1));
        Checks.start(x, 1);
        x.tick(1);
        Checks.same("all 24 are done", x.points(0), 3000);
    }

    /** "or a game is on": not in it, but before and after it. */
    private static void noRuleInAGame() {
        Tiltcourt x = Checks.table("p d", 0, 1, 12);
        Checks.start(x, 1);
        Checks.fails("in a game", Checks.STATE, () -> x.rule(0, 's', 0, false));
        Checks.fails("no trigger in a game", Checks.ARGUMENT, () -> x.rule(0, 'q', 0, false));
        x.tick(100);
        Checks.same("after it", x.rule(0, 's', 0, false), 0);
        Checks.start(x, 1);
        x.cut(0);
        Checks.same("after a cut", x.rule(0, 's', 0, false), 1);
    }

    /** "if there is no such rule" */
    private static void rulesOfConditions() {
        Tiltcourt x = Checks.machine("pd");
        Checks.fails("without rules", Checks.INDEX, () -> x.condition(0, 0, '<', 0));
        x.rule(0, 't', 0, false);
        for (int far : FAR) {
            Checks.fails("rule " + far, Checks.INDEX, () -> x.condition(far, 0, '<', 0));
        }
        Checks.fails("rule 1", Checks.INDEX, () -> x.condition(1, 0, '<', 0));
        Checks.fails("rule 1, no variable", Checks.INDEX, () -> x.condition(1, 6, '<', 0));
    }

    /** "if there is no such variable or sign, or the number is out of range" */
    private static void partsOfConditions() {
        Tiltcourt x = Checks.machine("pd");
        x.rule(0, 't', 0, false);
        for (int far : FAR) {
            Checks.fails("variable " + far, Checks.ARGUMENT, () -> x.condition(0, far, '<', 0));
        }
        Checks.fails("variable 6", Checks.ARGUMENT, () -> x.condition(0, 6, '<', 0));
        for (int i = 0; i < 300; i++) {
            char sign = (char) i;
            if (sign != '<' && sign != '=' && sign != '>') {
                Checks.fails("sign " + i, Checks.ARGUMENT, () -> x.condition(0, 0, sign, 0));
            }
        }
        for (int number : new int[] {-1000, 1000, Integer.MIN_VALUE, Integer.MAX_VALUE}) {
            Checks.fails("number " + number, Checks.ARGUMENT, () -> x.condition(0, 0, '<', number));
        }
        Checks.same("none was given", x.condition(0, 0, '<', -999), 1);
        Checks.same("the highest", x.condition(0, 5, '>', 999), 1);
    }

    /** "in place of another one. .. Returns how many conditions rules have." */
    private static void conditionInPlaceOfAnother() {
        Tiltcourt x = circle();
        Checks.rule(x, 0, 's', 1, "p1", "+5");
        Checks.rule(x, 0, 's', 1, "p10");
        Checks.same("the first", x.condition(0, 3, '>', 0), 1);
        Checks.same("in its place", x.condition(0, 2, '=', 0), 1);
        Checks.fails("refused", Checks.ARGUMENT, () -> x.condition(0, 6, '=', 0));
        Checks.fails("refused for another rule", Checks.ARGUMENT, () -> x.condition(1, 6, '=', 0));
        Checks.same("the second", x.condition(1, 3, '>', 0), 2);
        Checks.start(x, 1);
        x.tick(2);
        Checks.same("by the later one, once", x.points(0), 10);
        Checks.same("its variable", x.variable(0, 2), 5);
        Checks.same("not the earlier one's", x.variable(0, 3), 0);
    }

    private static void noConditionInAGame() {
        Tiltcourt x = Checks.table("p d", 0, 1, 12);
        x.rule(0, 't', 0, false);
        Checks.start(x, 1);
        Checks.fails("in a game", Checks.STATE, () -> x.condition(0, 0, '<', 0));
        Checks.fails("no rule in a game", Checks.INDEX, () -> x.condition(1, 0, '<', 0));
        Checks.fails("no sign in a game", Checks.ARGUMENT, () -> x.condition(0, 0, '!', 0));
        x.tick(100);
        Checks.same("after it", x.condition(0, 0, '<', 0), 1);
    }

    /** "if there is no such rule" */
    private static void rulesOfActions() {
        Tiltcourt x = Checks.machine("pd");
        Checks.fails("without rules", Checks.INDEX, () -> x.action(0, 'p', 1));
        x.rule(0, 't', 0, false);
        for (int far : FAR) {
            Checks.fails("rule " + far, Checks.INDEX, () -> x.action(far, 'p', 1));
        }
        Checks.fails("rule 1", Checks.INDEX, () -> x.action(1, 'p', 1));
        Checks.fails("rule 1, no kind", Checks.INDEX, () -> x.action(1, '?', 1));
        Checks.fails("rule 1, no number", Checks.INDEX, () -> x.action(1, 'p', 0));
    }

    /** "if there is no such kind" */
    private static void kindsOfActions() {
        Tiltcourt x = Checks.machine("pd");
        x.rule(0, 't', 0, false);
        for (int i = 0; i < 300; i++) {
            char kind = (char) i;
            if ("pm=+lokgcSXTBEL".indexOf(kind) < 0) {
                Checks.fails("kind " + i, Checks.ARGUMENT, () -> x.action(0, kind, 0));
                Checks.fails("kind " + i + " of 1", Checks.ARGUMENT, () -> x.action(0, kind, 1));
            }
        }
        Checks.same("none was given", x.action(0, 'E', 0), 1);
    }

    /** "1 to 999 for p, B and T, -99 to 99 for = and +, .. 0 for E and L", 1 to 9, 0 to 15, 1 to 5 */
    private static void numbersOfActions() {
        Tiltcourt x = Checks.machine("pd");
        for (int i = 0; i < 12; i++) {
            x.rule(0, 't', 0, false);
        }
        int[] low = {1, 1, 1, -99, -99, 0, 0, 1, 0, 0, 1, 1};
        int[] high = {999, 999, 999, 99, 99, 0, 0, 9, 15, 15, 5, 5};
        for (int i = 0; i < 12; i++) {
            int rule = i;
            char kind = "pBT=+ELmloSX".charAt(i);
            for (int wrong : new int[] {low[i] - 1, high[i] + 1, Integer.MIN_VALUE, Integer.MAX_VALUE}) {
                Checks.fails(kind + " of " + wrong, Checks.ARGUMENT, () -> x.action(rule, kind, wrong));
            }
            Checks.same(kind + " of " + low[i], x.action(rule, kind, low[i]), 1);
            Checks.same(kind + " of " + high[i], x.action(rule, kind, high[i]), 2);
        }
    }

    /** "a place that is a hole for k, a gate for g and c", "or of no such place now" */
    private static void placesOfActions() {
        String kinds = "pbhrgfd";
        Tiltcourt x = Checks.machine(kinds);
        for (int i = 0; i < 3; i++) {
            x.rule(0, 't', 0, false);
        }
        for (int i = 0; i < 3; i++) {
            int rule = i;
            char kind = "kgc".charAt(i);
            for (int far : FAR) {
                Checks.fails(kind + " of " + far, Checks.ARGUMENT, () -> x.action(rule, kind, far));
            }
            for (int place = 0; place < 8; place++) {
                int n = place;
                boolean fits = place < 7 && kinds.charAt(place) == (kind == 'k' ? 'h' : 'g');
                if (fits) {
                    Checks.same(kind + " of " + n, x.action(rule, kind, n), 1);
                } else {
                    Checks.fails(kind + " of " + n, Checks.ARGUMENT, () -> x.action(rule, kind, n));
                }
            }
        }
        x.place('h', 0);
        Checks.same("a hole that is there now", x.action(0, 'k', 7), 2);
        x.place('g', 0);
        Checks.same("a gate that is there now", x.action(1, 'g', 8), 2);
    }

    /** "if it has 4": "Returns how many actions it has." */
    private static void fourActions() {
        Tiltcourt x = circle();
        x.rule(0, 's', 1, false);
        x.rule(0, 's', 1, false);
        for (int i = 1; i <= 4; i++) {
            Checks.same("action", x.action(0, 'p', i), i);
            Checks.fails("refused", Checks.ARGUMENT, () -> x.action(0, 'p', 1000));
        }
        Checks.fails("a 5th", Checks.STATE, () -> x.action(0, 'p', 5));
        Checks.same("of another rule", x.action(1, 'p', 100), 1);
        Checks.start(x, 1);
        x.tick(1);
        Checks.same("all four are done", x.points(0), 1100);
    }

    private static void noActionInAGame() {
        Tiltcourt x = Checks.table("p d", 0, 1, 12);
        x.rule(0, 't', 0, false);
        Checks.start(x, 1);
        Checks.fails("in a game", Checks.STATE, () -> x.action(0, 'p', 1));
        Checks.fails("no rule in a game", Checks.INDEX, () -> x.action(1, 'p', 1));
        Checks.fails("no number in a game", Checks.ARGUMENT, () -> x.action(0, 'p', 0));
        x.tick(100);
        Checks.same("after it", x.action(0, 'p', 1), 1);
    }

    /** "a variable .. that is less than, equal to or greater than a number" */
    private static void lessEqualGreater() {
        for (int value = -2; value <= 0; value++) {
            Tiltcourt x = circle();
            Checks.ruleIf(x, "4=0", 0, 's', 1, "=" + value);
            Checks.ruleIf(x, "4<-1", 0, 's', 1, "p1");
            Checks.ruleIf(x, "4=-1", 0, 's', 1, "p10");
            Checks.ruleIf(x, "4>-1", 0, 's', 1, "p100");
            Checks.start(x, 1);
            x.tick(1);
            Checks.same("by " + value, x.points(0), value < -1 ? 10 : value == -1 ? 100 : 1000);
        }
    }

    /** "-999 to 999", which a variable comes to by 99 for 10 times and 9 more */
    private static void numbersOfConditions() {
        for (int sign = -1; sign <= 1; sign += 2) {
            Tiltcourt x = circle();
            Checks.ruleIf(x, "5=" + sign * 999, 0, 's', 1, "p1");
            Checks.ruleIf(x, "5" + (sign > 0 ? "<" : ">") + sign * 990, 0, 's', 1, "+" + sign * 99);
            Checks.ruleIf(x, "5=" + sign * 990, 0, 's', 1, "+" + sign * 9);
            Checks.start(x, 1);
            x.tick(10);
            Checks.same("variable", x.variable(0, 5), sign * 999);
            Checks.same("not held before", x.points(0), 0);
            x.tick(1);
            Checks.same("held", x.points(0), 10);
        }
    }

    /** "if the trigger fits and the condition holds then": when the rule is looked at, behind those before it. */
    private static void conditionHoldsThen() {
        Tiltcourt x = circle();
        Checks.ruleIf(x, "2=1", 0, 's', 1, "p100");
        Checks.ruleIf(x, "2=0", 0, 's', 1, "+1", "p1", "+1", "+-1");
        Checks.ruleIf(x, "2=1", 0, 's', 1, "p10", "+1");
        Checks.start(x, 1);
        x.tick(1);
        Checks.same("made true by the rule before, not for an earlier one", x.points(0), 110);
        Checks.same("variable", x.variable(0, 2), 2);
    }

    /** A variable that has become greater than an int holds is still greater, and one far below 0 still less. */
    private static void conditionOfALongGame() {
        for (String step : new String[] {"+99", "+-99"}) {
            boolean rises = step.equals("+99");
            Tiltcourt x = circle();
            Checks.rule(x, 0, 's', 1, "X1", "S1");
            for (int i = 0; i < 21; i++) {
                Checks.rule(x, 1, 'b', 0, step, step, step, step);
            }
            Checks.rule(x, 1, 'b', 0, "X1", "S1");
            Checks.ruleIf(x, rises ? "0<0" : "0>0", 0, 's', 1, "l5");
            Checks.start(x, 1);
            x.tick(1);
            // of the 20 events of a tick 19 are a 'b', each of which makes it 84 times 99 more or less
            Checks.same("variable", x.variable(0, 0), (rises ? 1 : -1) * 19 * 84 * 99);
            Checks.pass(x, 14000);
            Checks.same("the sign was never wrong", x.lamps(0), 0);
            Checks.same("the ball is on", x.ball(), 1);
        }
    }

    private static void ruleWithoutActions() {
        Tiltcourt x = circle();
        Checks.rule(x, 0, 's', 1, "S1");
        x.rule(1, 's', 1, true);
        Checks.rule(x, 0, 's', 1, "+1");
        x.rank(1, 1);
        Checks.start(x, 1);
        x.tick(3);
        Checks.same("it eats all the same", x.variable(0, 0), 1);
    }

    /** "the mode 0 runs from a game's beginning to its end, others do not at first" */
    private static void modesAtFirst() {
        Tiltcourt x = Checks.table("p d", 0, 1, 12);
        for (int i = 0; i < 6; i++) {
            Checks.same("before a game", x.runs(i), false);
        }
        Checks.start(x, 1);
        for (int i = 0; i < 6; i++) {
            Checks.same("in a game", x.runs(i), i == 0);
        }
        x.tick(5);
        Checks.same("its last tick", x.runs(0), true);
        x.tick(1);
        Checks.same("over", x.player(), -1);
        Checks.same("after it", x.runs(0), false);
    }

    /** The document ends the modes 1 to 5 when a ball begins, not when the game is over. */
    private static void othersAfterAGame() {
        Tiltcourt x = Checks.table("p d", 0, 1, 12);
        Checks.ruleIf(x, "0=5", 0, 's', 1, "S3", "T2");
        Checks.rule(x, 0, 's', 1, "+1");
        Checks.rule(x, 0, 't', 0, "p1");
        Checks.start(x, 1);
        x.tick(6);
        Checks.same("over", x.player(), -1);
        Checks.same("begun in the last tick", x.runs(3), true);
        Checks.same("0 has ended", x.runs(0), false);
        Checks.start(x, 1);
        Checks.same("the next game", x.runs(3), false);
        x.tick(4);
        Checks.same("the mode 0 ended with its timer", x.points(0), 0);
    }

    private static void modesToAsk() {
        Tiltcourt x = new Tiltcourt();
        for (int far : FAR) {
            Checks.fails("runs of " + far, Checks.INDEX, () -> x.runs(far));
        }
        Checks.fails("runs of 6", Checks.INDEX, () -> x.runs(6));
        Checks.same("runs of 5", x.runs(5), false);
    }

    /** "by falling ranks, of the same rank by rising numbers": the first gives a hundred times its number. */
    private static void fallingRanksRisingNumbers() {
        int[][] ranks = {{0, 0, 0}, {9, 0, 9}, {0, 9, 8}, {1, 2, 3}, {3, 3, 4}};
        long[] due = {123, 132, 231, 321, 312};
        for (int i = 0; i < ranks.length; i++) {
            Tiltcourt x = circle();
            Checks.ruleIf(x, "5=0", 0, 's', 1, "S1", "S2", "S3");
            for (int mode = 1; mode <= 3; mode++) {
                // 10 more keeps the mode's other rules from it, until its last rule makes it 1 more than before
                Checks.ruleIf(x, "4=0", mode, 's', 1, "p" + mode * 100, "=10");
                Checks.ruleIf(x, "4=1", mode, 's', 1, "p" + mode * 10, "=11");
                Checks.ruleIf(x, "4=2", mode, 's', 1, "p" + mode, "=12");
                Checks.ruleIf(x, "4>9", mode, 's', 1, "+-9");
                x.rank(mode, ranks[i][mode - 1]);
            }
            Checks.start(x, 1);
            x.tick(2);
            Checks.same("order " + i, x.points(0), due[i] * 10);
        }
    }

    /** The rank may change in a game, and holds for the next event. */
    private static void rankChangedInAGame() {
        Tiltcourt x = circle();
        Checks.rule(x, 0, 's', 1, "S1", "=1");
        Checks.rule(x, 1, 's', 1, "=2");
        Checks.start(x, 1);
        x.tick(2);
        Checks.same("1 behind 0", x.variable(0, 0), 2);
        Checks.same("rank", x.rank(1, 9), 0);
        x.tick(1);
        Checks.same("0 behind 1", x.variable(0, 0), 1);
    }

    /** "to those modes that run as it is looked at": a mode that the event itself begins is none. */
    private static void runsAsItIsLookedAt() {
        Tiltcourt x = circle();
        Checks.rule(x, 0, 's', 1, "S1");
        Checks.rule(x, 1, 's', 1, "p1");
        Checks.start(x, 1);
        x.tick(1);
        Checks.same("begun", x.runs(1), true);
        Checks.same("not given", x.points(0), 0);
        x.tick(1);
        Checks.same("the next is", x.points(0), 10);
    }

    /** "each one if it runs when its turn comes" */
    private static void runsWhenItsTurnComes() {
        Tiltcourt x = circle();
        Checks.ruleIf(x, "1=0", 0, 's', 1, "S1", "+1");
        Checks.ruleIf(x, "1=1", 0, 's', 1, "S2", "+1");
        Checks.rule(x, 1, 's', 1, "X2");
        Checks.rule(x, 2, 's', 1, "p1");
        Checks.start(x, 1);
        x.tick(1);
        Checks.same("both run", x.runs(1) && x.runs(2), true);
        x.tick(1);
        Checks.same("2 was ended before its turn", x.runs(2), false);
        Checks.same("not given", x.points(0), 0);
    }

    /** It ran as the event was looked at, and it runs when its turn comes. */
    private static void endedAndBegunBeforeItsTurn() {
        Tiltcourt x = circle();
        Checks.rule(x, 0, 's', 1, "X1", "S1");
        Checks.rule(x, 1, 's', 1, "p1");
        Checks.rule(x, 1, 'b', 0, "p10");
        Checks.start(x, 1);
        x.tick(1);
        Checks.same("its beginning", x.points(0), 100);
        x.tick(1);
        Checks.same("its turn, and its beginning again", x.points(0), 210);
    }

    /** "'t' and 'b' to their mode alone, if it runs": ended before its turn, a mode gets no 't'. */
    private static void timerEventToItsModeAlone() {
        Tiltcourt x = circle();
        Checks.ruleIf(x, "5=0", 0, 's', 1, "S1", "S2", "+1");
        Checks.rule(x, 1, 'b', 0, "T2");
        Checks.rule(x, 2, 'b', 0, "T2");
        Checks.rule(x, 0, 't', 0, "p1");
        Checks.rule(x, 1, 't', 0, "X2", "p10");
        Checks.rule(x, 2, 't', 0, "p100");
        Checks.start(x, 1);
        x.tick(2);
        Checks.same("not yet", x.points(0), 0);
        x.tick(1);
        Checks.same("1 alone; 2 was ended by it", x.points(0), 100);
        Checks.same("2", x.runs(2), false);
        x.tick(5);
        Checks.same("once", x.points(0), 100);
    }

    private static void beginningToItsModeAlone() {
        Tiltcourt x = circle();
        Checks.rule(x, 0, 's', 1, "S1");
        Checks.rule(x, 0, 'b', 0, "p1");
        Checks.rule(x, 1, 'b', 0, "p10");
        Checks.rule(x, 2, 'b', 0, "p100");
        Checks.rule(x, 1, 't', 0, "p500");
        Checks.start(x, 1);
        x.tick(3);
        Checks.same("1 alone, once", x.points(0), 100);
    }

    /** A mode that has ended before its 'b' is looked at does not get it. */
    private static void beginningOfAnEndedMode() {
        Tiltcourt x = circle();
        Checks.rule(x, 0, 's', 1, "S1", "X1");
        Checks.rule(x, 1, 'b', 0, "p1");
        Checks.start(x, 1);
        x.tick(3);
        Checks.same("begun and ended", x.points(0), 0);
    }

    /** "all its rules are looked at by rising numbers, also if it is ended by one of them" */
    private static void allRulesOfAModeThatEnds() {
        Tiltcourt x = circle();
        Checks.ruleIf(x, "5=0", 0, 's', 1, "S1", "+1");
        Checks.rule(x, 1, 's', 1, "X1", "p1");
        Checks.rule(x, 1, 's', 1, "p10");
        Checks.rule(x, 1, 's', 1, "p100");
        Checks.start(x, 1);
        x.tick(2);
        Checks.same("all three", x.points(0), 1110);
        Checks.same("ended", x.runs(1), false);
        x.tick(2);
        Checks.same("once", x.points(0), 1110);
    }

    /** By numbers, not by the modes' order in which they were added; actions in their order. */
    private static void rulesByRisingNumbers() {
        Tiltcourt x = circle();
        Checks.rule(x, 0, 's', 1, "=1", "+2");
        Checks.ruleIf(x, "0=3", 0, 's', 1, "=9", "+-4", "p1");
        Checks.ruleIf(x, "0=5", 0, 's', 1, "p10", "m2", "p10");
        Checks.start(x, 1);
        x.tick(1);
        Checks.same("each behind the other", x.points(0), 310);
        Checks.same("variable", x.variable(0, 0), 5);
    }

    /** "If one of these rules eats, no further mode gets the event.": all rules of its own mode do. */
    private static void eatingKeepsItFromFurtherModes() {
        Tiltcourt x = circle();
        Checks.ruleIf(x, "5=0", 0, 's', 1, "S1", "S2", "S3", "+1");
        Checks.rule(x, 3, 's', 1, "p1");
        Checks.rule(x, 2, 's', 1, "p2");
        Checks.eater(x, 2, 's', 1, "p10");
        Checks.rule(x, 2, 's', 1, "p20");
        Checks.rule(x, 1, 's', 1, "p100");
        Checks.rule(x, 0, 's', 1, "p500");
        x.rank(3, 9);
        x.rank(2, 5);
        x.rank(1, 5);
        Checks.start(x, 1);
        x.tick(1);
        Checks.same("0 alone runs", x.points(0), 5000);
        x.tick(1);
        Checks.same("3, then 1, of the rank of 2 and before it, then all of 2", x.points(0), 5000 + 1330);
    }

    /** A rule whose trigger does not fit or whose condition does not hold eats nothing. */
    private static void eatingNeedsADoneRule() {
        Tiltcourt x = circle();
        Checks.ruleIf(x, "5=0", 0, 's', 1, "S1", "+1");
        Checks.eater(x, 1, 's', 0, "p1");
        Checks.eater(x, 1, 't', 0, "p1");
        int eats = Checks.eater(x, 1, 's', 1, "p1");
        x.condition(eats, 4, '>', 0);
        Checks.rule(x, 0, 's', 1, "p10");
        x.rank(1, 9);
        Checks.start(x, 1);
        x.tick(2);
        Checks.same("let through", x.points(0), 200);
    }

    private static void eatingOneEventOnly() {
        Tiltcourt x = Checks.table("p h p d", 0, 1, 12, 1, 2, 8, 2, 2, 1);
        Checks.ruleIf(x, "5=0", 0, 's', 1, "S1", "L0", "k1", "+1");
        Checks.eater(x, 1, 's', 1, "p1");
        Checks.rule(x, 0, 's', 1, "p10");
        Checks.rule(x, 0, 's', 2, "p100");
        x.rank(1, 9);
        Checks.start(x, 1);
        Checks.same("1", x.tick(1), 1);
        Checks.same("let through, 1 does not run yet", x.points(0), 100);
        Checks.same("2 and 1 in the same tick", x.tick(1), 2);
        Checks.same("2 let through, 1 eaten", x.points(0), 100 + 1000 + 10);
    }
}
