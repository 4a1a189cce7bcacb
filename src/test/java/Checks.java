import java.util.NoSuchElementException;

/** What the tests share: they count wrong answers, print them, and end with the exit code 1 if there was one. */
final class Checks {
    static final Class<? extends RuntimeException> INDEX = IndexOutOfBoundsException.class;
    static final Class<? extends RuntimeException> ARGUMENT = IllegalArgumentException.class;
    static final Class<? extends RuntimeException> STATE = IllegalStateException.class;
    static final Class<? extends RuntimeException> NO_ELEMENT = NoSuchElementException.class;
    static final Class<? extends RuntimeException> ARITHMETIC = ArithmeticException.class;
    private static int checked = 0;
    private static int wrong = 0;

    private Checks() {
    }

    static void same(String what, long got, long due) {
        checked++;
        if (got != due) {
            tell(what + " answered " + got + ", due is " + due);
        }
    }

    static void same(String what, boolean got, boolean due) {
        checked++;
        if (got != due) {
            tell(what + " answered " + got + ", due is " + due);
        }
    }

    static void same(String what, double got, double due) {
        checked++;
        if (got != due) {
            tell(what + " answered " + got + ", due is " + due);
        }
    }

    /** The very class counts: what the Java machine throws by itself is mostly a class below it. */
    static void fails(String what, Class<? extends RuntimeException> due, Runnable call) {
        checked++;
        try {
            call.run();
            tell(what + " threw nothing, due is " + due.getSimpleName());
        } catch (RuntimeException e) {
            if (e.getClass() != due) {
                tell(what + " threw " + e + ", due is " + due.getSimpleName());
            }
        }
    }

    static void tell(String line) {
        wrong++;
        System.out.println(line);
    }

    static void end(String name) {
        System.out.println(name + ": " + checked + " checks, " + wrong + " wrong");
        if (wrong > 0 || checked == 0) {
            System.exit(1);
        }
    }

    /** A machine with places of these kinds, each with the number 0, or 1 for a ramp. */
    static Tiltcourt machine(String kinds) {
        Tiltcourt x = new Tiltcourt();
        for (int i = 0; i < kinds.length(); i++) {
            x.place(kinds.charAt(i), kinds.charAt(i) == 'r' ? 1 : 0);
        }
        return x;
    }

    /** Lays a lane and gives the machine back, so that calls can be strung together. */
    static Tiltcourt lanes(Tiltcourt x, int... fromToLength) {
        for (int i = 0; i + 2 < fromToLength.length; i += 3) {
            x.lane(fromToLength[i], fromToLength[i + 1], fromToLength[i + 2]);
        }
        return x;
    }

    /** A table told as "p r9 f1 d", each kind with its number or 0, then its lanes, each as from, to, length. */
    static Tiltcourt table(String places, int... fromToLength) {
        Tiltcourt x = new Tiltcourt();
        for (String place : places.split(" ")) {
            x.place(place.charAt(0), place.length() > 1 ? Integer.parseInt(place.substring(1)) : 0);
        }
        return lanes(x, fromToLength);
    }

    /** Adds a rule without a condition; actions are told as "p5", "S1", "=-3". */
    static int rule(Tiltcourt x, int mode, char trigger, int a, String... actions) {
        int rule = x.rule(mode, trigger, a, false);
        give(x, rule, actions);
        return rule;
    }

    /** Adds a rule with a condition told as "0<4", the variable, the sign and the number. */
    static int ruleIf(Tiltcourt x, String condition, int mode, char trigger, int a, String... actions) {
        int rule = rule(x, mode, trigger, a, actions);
        x.condition(rule, condition.charAt(0) - '0', condition.charAt(1), Integer.parseInt(condition.substring(2)));
        return rule;
    }

    static int eater(Tiltcourt x, int mode, char trigger, int a, String... actions) {
        int rule = x.rule(mode, trigger, a, true);
        give(x, rule, actions);
        return rule;
    }

    private static void give(Tiltcourt x, int rule, String[] actions) {
        for (String action : actions) {
            x.action(rule, action.charAt(0), Integer.parseInt(action.substring(1)));
        }
    }

    /** Lets more ticks go by than one call may, while the game is on. */
    static void pass(Tiltcourt x, int ticks) {
        for (int left = ticks; left > 0 && x.player() >= 0; left -= 100) {
            x.tick(Math.min(left, 100));
        }
    }

    static void start(Tiltcourt x, int players) {
        x.coin(2 * players);
        x.begin(players);
    }
}
