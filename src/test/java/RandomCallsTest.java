import java.util.NoSuchElementException;

/**
 * Runs of random calls, right and wrong: each throws only what the document names, the invariants hold, a call that
 * throws changes nothing that can be asked, and the same calls give the same answers.
 */
public final class RandomCallsTest {
    private static final int RUNS = 1500;
    private static final int CALLS = 512;
    private static final String KINDS = "pbhrgfd";
    private static final String ACTIONS = "pm=+lokgcSXTBEL";

    private long seed;
    private Tiltcourt x;
    private int places;
    private int laid;
    private int rules;
    private int games;

    private RandomCallsTest(long seed) {
        this.seed = seed * 7919 + 17;
    }

    public static void main(String[] args) {
        int games = 0;
        for (int run = 0; run < RUNS; run++) {
            RandomCallsTest one = new RandomCallsTest(run);
            long first = one.run(run);
            Checks.same("run " + run + " again", new RandomCallsTest(run).run(run), first);
            games += one.games;
        }
        Checks.same("many games begin", games > RUNS, true);
        Checks.end("RandomCallsTest");
    }

    private int random(int bound) {
        seed = seed * 6364136223846793005L + 1442695040888963407L;
        return (int) ((seed >>> 33) % bound);
    }

    /** Mostly in the range, at times just outside of it or far away. */
    private int about(int low, int high) {
        switch (random(40)) {
            case 0:
                return low - 1;
            case 1:
                return high + 1;
            case 2:
                return random(2) == 0 ? Integer.MIN_VALUE : Integer.MAX_VALUE;
            default:
                return low + random(high - low + 1);
        }
    }

    private long run(int run) {
        x = new Tiltcourt();
        long sum = 0;
        int building = 40 + random(100);
        for (int i = 0; i < CALLS; i++) {
            long before = asked();
            long answer;
            try {
                answer = i < building ? build() : play();
            } catch (IllegalArgumentException | IllegalStateException | IndexOutOfBoundsException
                    | NoSuchElementException | UnsupportedOperationException | ArithmeticException e) {
                String name = e.getClass().getSimpleName();
                if (name.startsWith("Array") || name.startsWith("String") || e.getMessage() == null
                        || e.getMessage().startsWith("/ by")) {
                    Checks.tell("run " + run + ", call " + i + ": the machine threw " + e);
                }
                answer = name.length() * 1000003L;
                if (asked() != before) {
                    Checks.tell("run " + run + ", call " + i + ": a call that throws changed something");
                }
            } catch (RuntimeException e) {
                Checks.tell("run " + run + ", call " + i + ": " + e);
                answer = -1;
            }
            if (!x.isConsistent()) {
                Checks.tell("run " + run + ", call " + i + ": not consistent");
            }
            sum = sum * 31 + answer;
        }
        return sum * 31 + asked();
    }

    /** All that can be asked without changing anything, as one number. */
    private long asked() {
        long sum = x.player() * 31L + x.ball() * 7L + x.bonus();
        for (int i = 0; i < 4; i++) {
            char state = x.state(i);
            sum = sum * 31 + state;
            if (state != '-') {
                sum = sum * 31 + x.at(i) * 500L + x.left(i);
            }
        }
        for (int i = 0; i < 5; i++) {
            sum = sum * 31 + x.audit(i);
        }
        for (int i = 0; i < 6; i++) {
            sum = sum * 31 + (x.runs(i) ? 1 : 0);
        }
        for (int i = 0; i < places; i++) {
            sum = sum * 31 + x.heat(i) * 2L + (x.isSeen(i) ? 1 : 0);
        }
        if (x.player() >= 0) {
            sum = sum * 31 + x.points(x.player()) + x.lamps(x.player()) + x.variable(x.player(), 0);
        }
        return sum * 2 + (x.isWhole() ? 1 : 0);
    }

    private long build() {
        switch (random(12)) {
            case 0:
                char kind = random(30) == 0 ? (char) random(200) : KINDS.charAt(places == 0 ? 0 : random(7));
                int number = x.place(kind, kind == 'r' ? about(1, 20) : kind == 'f' ? about(0, 1) : about(0, 0));
                places = number + 1;
                return number;
            case 1:
            case 2:
            case 3:
            case 4:
                laid++;
                return x.lane(about(0, Math.max(places - 1, 0)), about(0, Math.max(places - 1, 0)),
                        random(3) == 0 ? about(1, 200) : about(1, 40));
            case 5:
            case 6:
                char trigger = random(30) == 0 ? 'x' : "sssstb".charAt(random(6));
                int rule = x.rule(about(0, 5), trigger, trigger == 's' ? about(0, Math.max(places - 1, 0)) : about(0, 0),
                        random(4) == 0);
                rules = rule + 1;
                return rule;
            case 7:
                return x.condition(about(0, Math.max(rules - 1, 0)), about(0, 5), "<=>!".charAt(random(20) == 0 ? 3 : random(3)),
                        random(8) == 0 ? about(-999, 999) : about(-5, 5));
            case 8:
            case 9:
            case 10:
                return act();
            default:
                return x.rank(about(0, 5), about(0, 9));
        }
    }

    private long act() {
        char kind = random(40) == 0 ? 'z' : ACTIONS.charAt(random(ACTIONS.length()));
        int rule = about(0, Math.max(rules - 1, 0));
        switch (kind) {
            case 'p':
            case 'B':
                return x.action(rule, kind, about(1, 999));
            case 'T':
                return x.action(rule, kind, about(1, 30));
            case 'm':
                return x.action(rule, kind, about(1, 9));
            case '=':
            case '+':
                return x.action(rule, kind, about(-9, 9));
            case 'k':
            case 'g':
            case 'c':
                return x.action(rule, kind, about(0, Math.max(places - 1, 0)));
            case 'S':
            case 'X':
                return x.action(rule, kind, about(1, 5));
            case 'E':
            case 'L':
                return x.action(rule, kind, about(0, 0));
            default:
                return x.action(rule, kind, about(0, 15));
        }
    }

    private long play() {
        if (!x.isWhole() && random(2) == 0) {
            return x.lane(about(0, Math.max(places - 1, 0)), about(0, Math.max(places - 1, 0)), about(1, 40));
        }
        switch (random(24)) {
            case 0:
                return x.coin(about(1, 20));
            case 1:
            case 2:
                long left = x.begin(about(1, 4));
                games++;
                return left;
            case 3:
            case 4:
                return x.press(about(0, 1)) ? 1 : 0;
            case 5:
            case 6:
                return x.letGo(about(0, 1)) ? 1 : 0;
            case 7:
                return x.push();
            case 8:
                return x.fail(about(0, Math.max(places - 1, 0)), random(2) == 0) ? 1 : 0;
            case 9:
                return x.spoil(random(4) != 0) ? 1 : 0;
            case 10:
                return x.save();
            case 11:
                return random(4) == 0 ? x.cut(about(0, 7)) : 0;
            case 12:
                return (long) (x.savedShare() * 1000000) + (long) (x.meanPoints() * 1000);
            case 13:
                return x.points(about(0, 3)) + x.lamps(about(0, 3)) + x.variable(about(0, 3), about(0, 5));
            case 14:
                return x.state(about(0, 3)) + x.at(about(0, 3)) + x.left(about(0, 3));
            case 15:
                return x.heat(about(0, 15)) + x.audit(about(0, 4)) + (x.isSeen(about(0, 15)) ? 1 : 0);
            case 16:
                return random(3) == 0 ? build() : x.runs(about(0, 5)) ? 1 : 0;
            default:
                return x.tick(random(3) == 0 ? about(1, 100) : about(1, 8));
        }
    }
}
