import java.util.NoSuchElementException;

/** A pinball machine, as ../shared/DOC.md tells it; not thread-safe. */
public final class Tiltcourt {
    private static final int MOST_RULES = 24;
    private static final int MOST_TICKS = 100;
    private static final int SIDES = 2;

    private final Field field;
    private final Audits audits;
    private final Play play;
    private final Rule[] rules;
    private int ruleCount;

    public Tiltcourt() {
        rules = new Rule[MOST_RULES];
        for (int i = 0; i < rules.length; i++) {
            rules[i] = new Rule();
        }
        field = new Field();
        audits = new Audits();
        play = new Play(field, audits, rules);
    }

    // ---- table

    public int place(char kind, int number) throws IllegalArgumentException, IllegalStateException {
        if (!Place.allows(kind, number)) {
            throw new IllegalArgumentException("no such kind, or its number is out of range");
        }
        if (field.isFull() || play.isOn) {
            throw new IllegalStateException("16 places, or a game is on");
        }
        return field.addPlace(kind, number);
    }

    public int lane(int from, int to, int length)
            throws IndexOutOfBoundsException, IllegalArgumentException, IllegalStateException {
        Place start = field.placeAt(from);
        if (start == null || field.placeAt(to) == null) {
            throw new IndexOutOfBoundsException("no such place");
        }
        if (length < 1 || length > 200) {
            throw new IllegalArgumentException("the length is out of range");
        }
        if (!start.takesLane() || play.isOn) {
            throw new IllegalStateException("no further lane, or a game is on");
        }
        return start.addLane(to, length);
    }

    public boolean isWhole() {
        return field.isPlayable();
    }

    public boolean fail(int place, boolean fails) throws IndexOutOfBoundsException {
        Place found = field.placeAt(place);
        if (found == null) {
            throw new IndexOutOfBoundsException("no such place");
        }
        boolean before = found.fails;
        found.fails = fails;
        return before;
    }

    public boolean spoil(boolean areBad) {
        boolean before = field.hasBadDiodes;
        field.hasBadDiodes = areBad;
        return before;
    }

    // ---- rules

    public int rank(int mode, int rank) throws IndexOutOfBoundsException, IllegalArgumentException {
        Mode found = play.modeAt(mode);
        if (found == null) {
            throw new IndexOutOfBoundsException("no such mode");
        }
        if (rank < 0 || rank > Mode.HIGHEST_RANK) {
            throw new IllegalArgumentException("the rank is out of range");
        }
        int before = found.rank;
        found.rank = rank;
        return before;
    }

    public int rule(int mode, char trigger, int a, boolean eats)
            throws IndexOutOfBoundsException, IllegalArgumentException, IllegalStateException {
        if (play.modeAt(mode) == null) {
            throw new IndexOutOfBoundsException("no such mode");
        }
        if (!fitsTrigger(trigger, a)) {
            throw new IllegalArgumentException("no such trigger or place, or the number is not 0");
        }
        int added = ruleCount;
        if (added < 0 || added >= rules.length || play.isOn) {
            throw new IllegalStateException("24 rules, or a game is on");
        }
        rules[added].define(mode, trigger, a, eats);
        ruleCount++;
        return added;
    }

    public int condition(int rule, int variable, char sign, int number)
            throws IndexOutOfBoundsException, IllegalArgumentException, IllegalStateException {
        Rule found = ruleAt(rule);
        if (found == null) {
            throw new IndexOutOfBoundsException("no such rule");
        }
        boolean isSign = sign == '<' || sign == '=' || sign == '>';
        if (variable < 0 || variable >= Player.VARIABLES || !isSign || number < -999 || number > 999) {
            throw new IllegalArgumentException("no such variable or sign, or the number is out of range");
        }
        if (play.isOn) {
            throw new IllegalStateException("a game is on");
        }
        found.setCondition(variable, sign, number);
        return countConditions();
    }

    public int action(int rule, char kind, int n)
            throws IndexOutOfBoundsException, IllegalArgumentException, IllegalStateException {
        Rule found = ruleAt(rule);
        if (found == null) {
            throw new IndexOutOfBoundsException("no such rule");
        }
        if (!fitsAction(kind, n)) {
            throw new IllegalArgumentException("no such kind, or its number does not fit");
        }
        if (!found.takesAction() || play.isOn) {
            throw new IllegalStateException("4 actions, or a game is on");
        }
        return found.addAction(kind, n);
    }

    // ---- coins, games and play

    public int coin(int coins) throws IllegalArgumentException {
        if (coins < 1 || coins > 20) {
            throw new IllegalArgumentException("the number of coins is out of range");
        }
        return play.takeCoins(coins);
    }

    public int begin(int players)
            throws IllegalArgumentException, IllegalStateException, UnsupportedOperationException {
        if (players < 1 || players > Play.MOST_PLAYERS) {
            throw new IllegalArgumentException("the number of players is out of range");
        }
        if (play.isOn || !field.isPlayable()) {
            throw new IllegalStateException("a game is on, or the table is not whole");
        }
        if (play.credits < players) {
            throw new UnsupportedOperationException("too few credits");
        }
        play.beginGame(players);
        return play.credits;
    }

    public boolean press(int side) throws IndexOutOfBoundsException, IllegalStateException {
        if (side < 0 || side >= SIDES) {
            throw new IndexOutOfBoundsException("no such side");
        }
        if (!play.isOn) {
            throw new IllegalStateException("no game is on");
        }
        return !play.turn.isTilted && field.raiseFlippers(side);
    }

    public boolean letGo(int side) throws IndexOutOfBoundsException, IllegalStateException {
        if (side < 0 || side >= SIDES) {
            throw new IndexOutOfBoundsException("no such side");
        }
        if (!play.isOn) {
            throw new IllegalStateException("no game is on");
        }
        return field.lowerFlippers(side);
    }

    public char push() throws IllegalStateException {
        if (!play.isOn) {
            throw new IllegalStateException("no game is on");
        }
        return play.takePush();
    }

    public int tick(int ticks) throws IllegalArgumentException, IllegalStateException {
        if (ticks < 1 || ticks > MOST_TICKS) {
            throw new IllegalArgumentException("the number of ticks is out of range");
        }
        if (!play.isOn) {
            throw new IllegalStateException("no game is on");
        }
        int given = 0;
        for (int i = 0; i < ticks && play.isOn; i++) {
            given += play.passTick();
        }
        return given;
    }

    public int player() {
        return play.isOn ? play.whoseTurn : -1;
    }

    public int ball() {
        return play.isOn ? play.ballNumber : 0;
    }

    public long points(int player) throws IndexOutOfBoundsException {
        Player found = play.playerAt(player);
        if (found == null) {
            throw new IndexOutOfBoundsException("no such player");
        }
        return found.points;
    }

    public int variable(int player, int variable) throws IndexOutOfBoundsException {
        Player found = play.playerAt(player);
        if (found == null || variable < 0 || variable >= Player.VARIABLES) {
            throw new IndexOutOfBoundsException("no such player or variable");
        }
        return (int) found.read(variable);
    }

    public int lamps(int player) throws IndexOutOfBoundsException {
        Player found = play.playerAt(player);
        if (found == null) {
            throw new IndexOutOfBoundsException("no such player");
        }
        return found.lamps;
    }

    public char state(int ball) throws IndexOutOfBoundsException {
        Ball found = field.ballAt(ball);
        if (found == null) {
            throw new IndexOutOfBoundsException("no such ball");
        }
        return found.state;
    }

    public int at(int ball) throws IndexOutOfBoundsException, NoSuchElementException {
        Ball found = field.ballAt(ball);
        if (found == null) {
            throw new IndexOutOfBoundsException("no such ball");
        }
        if (found.state == Ball.HOME) {
            throw new NoSuchElementException("the ball is home");
        }
        return found.place;
    }

    public int left(int ball) throws IndexOutOfBoundsException, NoSuchElementException {
        Ball found = field.ballAt(ball);
        if (found == null) {
            throw new IndexOutOfBoundsException("no such ball");
        }
        if (found.state == Ball.HOME) {
            throw new NoSuchElementException("the ball is home");
        }
        return found.left;
    }

    public boolean runs(int mode) throws IndexOutOfBoundsException {
        Mode found = play.modeAt(mode);
        if (found == null) {
            throw new IndexOutOfBoundsException("no such mode");
        }
        return found.isRunning;
    }

    public int heat(int place) throws IndexOutOfBoundsException {
        Place found = field.placeAt(place);
        if (found == null) {
            throw new IndexOutOfBoundsException("no such place");
        }
        return found.heat;
    }

    public boolean isSeen(int place) throws IndexOutOfBoundsException {
        if (field.placeAt(place) == null) {
            throw new IndexOutOfBoundsException("no such place");
        }
        int closed = field.closedSwitches();
        return Field.holds(closed, place) || field.isGhost(place, closed);
    }

    public int bonus() {
        return play.isOn ? (int) play.turn.bonus : 0;
    }

    // ---- audits

    public int save() {
        return audits.saveAll();
    }

    public int cut(int written) throws IllegalArgumentException {
        if (written < 0 || written > Audits.WRITTEN) {
            throw new IllegalArgumentException("the number is out of range");
        }
        audits.write(written);
        audits.load();
        field.forgetPlay();
        play.forgetAll();
        return audits.times;
    }

    public long audit(int which) throws IndexOutOfBoundsException {
        if (which < 0 || which >= Audits.COUNTS) {
            throw new IndexOutOfBoundsException("no such audit");
        }
        return audits.read(which);
    }

    public float savedShare() throws ArithmeticException {
        int all = play.savedBalls + play.endedBalls;
        if (all <= 0) {
            throw new ArithmeticException("no ball was saved or ended");
        }
        return (float) play.savedBalls / (float) all;
    }

    public double meanPoints() throws ArithmeticException {
        if (play.playerCount <= 0) {
            throw new ArithmeticException("no game since power came");
        }
        return (double) play.sumOfPoints() / (double) play.playerCount;
    }

    public boolean isConsistent() {
        return field.ballsAreSomewhere() && play.pointsAreWrittenDown() && audits.isReadable();
    }

    // ---- what rules may be given

    private Rule ruleAt(int rule) {
        return rule >= 0 && rule < ruleCount && rule < rules.length ? rules[rule] : null;
    }

    private int countConditions() {
        int count = 0;
        for (Rule rule : rules) {
            if (rule.hasCondition) {
                count++;
            }
        }
        return count;
    }

    private boolean fitsTrigger(char trigger, int a) {
        if (trigger == Rule.SWITCH) {
            return field.placeAt(a) != null;
        }
        return (trigger == Rule.TIMER || trigger == Rule.BEGINNING) && a == 0;
    }

    private boolean fitsAction(char kind, int n) {
        switch (kind) {
            case 'p':
            case 'B':
            case 'T':
                return n >= 1 && n <= 999;
            case 'm':
                return n >= 1 && n <= 9;
            case '=':
            case '+':
                return n >= -99 && n <= 99;
            case 'l':
            case 'o':
                return n >= 0 && n < Player.LAMPS;
            case 'k':
                return field.isOfKind(n, Place.HOLE);
            case 'g':
            case 'c':
                return field.isOfKind(n, Place.GATE);
            case 'S':
            case 'X':
                return n >= 1 && n < Mode.MODES;
            case 'E':
            case 'L':
                return n == 0;
            default:
                return false;
        }
    }

    /** A place with its lanes, its switch, and the coil or gate that it may have. */
    private static final class Place {
        static final char PLAIN = 'p';
        static final char BUMPER = 'b';
        static final char HOLE = 'h';
        static final char RAMP = 'r';
        static final char GATE = 'g';
        static final char FLIPPER = 'f';
        static final char DRAIN = 'd';
        private static final int MOST_LANES = 4;
        private static final int HEAT_OF_USE = 12;
        private static final int LOCKED_ABOVE = 40;
        private static final int FREE_BELOW = 15;

        private char kind;
        private int number;
        private int lanes;
        private final int[] ends = new int[MOST_LANES];
        private final int[] lengths = new int[MOST_LANES];
        private boolean fails;
        private boolean wasGhost;
        private boolean isOpen;
        private int heat;
        private boolean isLocked;

        static boolean allows(char kind, int number) {
            switch (kind) {
                case RAMP:
                    return number >= 1 && number <= 20;
                case FLIPPER:
                    return number == 0 || number == 1;
                case PLAIN:
                case BUMPER:
                case HOLE:
                case GATE:
                case DRAIN:
                    return number == 0;
                default:
                    return false;
            }
        }

        boolean hasItsLanes() {
            switch (kind) {
                case DRAIN:
                    return true;
                case RAMP:
                case GATE:
                case FLIPPER:
                    return lanes >= 2;
                default:
                    return lanes >= 1;
            }
        }

        boolean takesLane() {
            return kind != DRAIN && lanes < MOST_LANES;
        }

        int addLane(int to, int length) {
            int added = lanes;
            if (added >= 0 && added < ends.length && added < lengths.length) {
                ends[added] = to;
                lengths[added] = length;
                lanes++;
            }
            return added;
        }

        int laneModulo(int n, int choices) {
            return n >= 0 && choices > 0 ? n % choices : 0;
        }

        /** Uses the coil; false if it is locked. */
        boolean useCoil() {
            if (isLocked) {
                return false;
            }
            heat += HEAT_OF_USE;
            isLocked = heat > LOCKED_ABOVE;
            return true;
        }

        void cool() {
            if (heat > 0) {
                heat--;
            }
            if (heat < FREE_BELOW) {
                isLocked = false;
            }
        }

        void forgetPlay() {
            wasGhost = false;
            isOpen = false;
            heat = 0;
            isLocked = false;
        }
    }

    /** A ball: home, in a lane, or resting. */
    private static final class Ball {
        static final char HOME = '-';
        static final char IN_LANE = 'l';
        static final char RESTS = 'r';

        private char state = HOME;
        private int place;
        private int left;
        private int speed;

        void goHome() {
            state = HOME;
            place = 0;
            left = 0;
            speed = 0;
        }

        void rest(int where) {
            state = RESTS;
            place = where;
            left = 0;
            speed = 0;
        }

        void leave(Place from, int lane, int withSpeed) {
            if (lane < 0 || lane >= from.ends.length || lane >= from.lengths.length || withSpeed < 1) {
                return;
            }
            state = IN_LANE;
            place = from.ends[lane];
            left = (from.lengths[lane] + withSpeed - 1) / withSpeed;
            speed = withSpeed;
        }
    }

    /** The table with its balls and flippers: all that moves without rules. */
    private static final class Field {
        private static final int MOST_PLACES = 16;
        private static final int BALLS = 4;
        private static final int WIDTH = 4;
        private static final int DOWN = -1;
        private static final int STRIKING_TICKS = 3;
        private static final int TOP_BUMPER_SPEED = 20;
        private static final int MOST_QUIET_TICKS = 200;

        private final Place[] places = new Place[MOST_PLACES];
        private int placeCount;
        private boolean hasBadDiodes;
        private final Ball[] balls = new Ball[BALLS];
        /** For each side, the ticks since its flippers came up, or DOWN. */
        private final int[] ticksUp = new int[SIDES];
        private int quietTicks;

        Field() {
            for (int i = 0; i < places.length; i++) {
                places[i] = new Place();
            }
            for (int i = 0; i < balls.length; i++) {
                balls[i] = new Ball();
            }
            for (int i = 0; i < ticksUp.length; i++) {
                ticksUp[i] = DOWN;
            }
        }

        boolean isFull() {
            return placeCount >= MOST_PLACES;
        }

        int addPlace(char kind, int number) {
            int added = placeCount;
            if (added >= 0 && added < places.length) {
                places[added].kind = kind;
                places[added].number = number;
                placeCount++;
            }
            return added;
        }

        Place placeAt(int p) {
            return p >= 0 && p < placeCount && p < places.length ? places[p] : null;
        }

        boolean isOfKind(int p, char kind) {
            Place place = placeAt(p);
            return place != null && place.kind == kind;
        }

        Ball ballAt(int b) {
            return b >= 0 && b < balls.length ? balls[b] : null;
        }

        boolean isPlayable() {
            boolean hasDrain = false;
            for (int i = 0; i < placeCount && i < places.length; i++) {
                if (!places[i].hasItsLanes()) {
                    return false;
                }
                if (places[i].kind == Place.DRAIN) {
                    hasDrain = true;
                }
            }
            return hasDrain && !isOfKind(0, Place.DRAIN);
        }

        void launch() {
            Place start = placeAt(0);
            if (start == null) {
                return;
            }
            for (Ball ball : balls) {
                if (ball.state == Ball.HOME) {
                    ball.leave(start, 0, 12);
                    quietTicks = 0;
                    return;
                }
            }
        }

        boolean allAreHome() {
            for (Ball ball : balls) {
                if (ball.state != Ball.HOME) {
                    return false;
                }
            }
            return true;
        }

        void coolCoils() {
            for (Place place : places) {
                place.cool();
            }
        }

        void moveBalls(Events events) {
            for (Ball ball : balls) {
                if (ball.state == Ball.IN_LANE) {
                    ball.left--;
                    if (ball.left <= 0) {
                        come(ball, events);
                    }
                }
            }
        }

        private void come(Ball ball, Events events) {
            Place place = placeAt(ball.place);
            if (place == null) {
                return;
            }
            if (!place.fails) {
                events.put(Rule.SWITCH, ball.place);
            }
            int v = ball.speed > 1 ? ball.speed - 1 : 1;
            switch (place.kind) {
                case Place.PLAIN:
                    ball.leave(place, place.laneModulo(v, place.lanes), v);
                    break;
                case Place.BUMPER:
                    bump(ball, place, v);
                    break;
                case Place.RAMP:
                    climb(ball, place, v);
                    break;
                case Place.GATE:
                    ball.leave(place, place.isOpen ? 0 : 1, v);
                    break;
                case Place.FLIPPER:
                    meetFlipper(ball, place, v);
                    break;
                case Place.HOLE:
                    ball.rest(ball.place);
                    break;
                default:
                    ball.goHome();
                    break;
            }
        }

        private void bump(Ball ball, Place bumper, int v) {
            int speed = v;
            if (bumper.useCoil()) {
                speed = Math.min(v + 4, TOP_BUMPER_SPEED);
            }
            ball.leave(bumper, bumper.laneModulo(speed, bumper.lanes), speed);
        }

        private void climb(Ball ball, Place ramp, int v) {
            if (v >= ramp.number) {
                ball.leave(ramp, 0, Math.max(v - 2, 1));
            } else {
                ball.leave(ramp, 1, 2);
            }
        }

        private void meetFlipper(Ball ball, Place flipper, int v) {
            int up = ticksUpAt(flipper.number);
            if (up == DOWN) {
                ball.leave(flipper, flipper.lanes - 1, v);
            } else if (up < STRIKING_TICKS) {
                ball.leave(flipper, flipper.laneModulo(up, flipper.lanes - 1), 18);
            } else {
                ball.rest(ball.place);
            }
        }

        void dropFromFlippers() {
            for (Ball ball : balls) {
                Place place = ball.state == Ball.RESTS ? placeAt(ball.place) : null;
                if (place != null && place.kind == Place.FLIPPER && ticksUpAt(place.number) == DOWN) {
                    ball.leave(place, place.lanes - 1, 3);
                }
            }
        }

        void kick(int hole) {
            Place place = placeAt(hole);
            Ball ball = lowestResting(hole);
            if (place != null && ball != null && place.kind == Place.HOLE && place.useCoil()) {
                ball.leave(place, 0, 8);
            }
        }

        /** After too many ticks without events of places, kicks all holes. */
        void countQuietTicks(int given) {
            quietTicks = given > 0 ? 0 : quietTicks + 1;
            if (quietTicks >= MOST_QUIET_TICKS) {
                for (int i = 0; i < placeCount; i++) {
                    kick(i);
                }
                quietTicks = 0;
            }
        }

        private Ball lowestResting(int p) {
            for (Ball ball : balls) {
                if (ball.state == Ball.RESTS && ball.place == p) {
                    return ball;
                }
            }
            return null;
        }

        private int ticksUpAt(int side) {
            return side >= 0 && side < ticksUp.length ? ticksUp[side] : DOWN;
        }

        boolean raiseFlippers(int side) {
            if (side < 0 || side >= ticksUp.length || ticksUp[side] != DOWN) {
                return false;
            }
            ticksUp[side] = 0;
            return true;
        }

        boolean lowerFlippers(int side) {
            if (side < 0 || side >= ticksUp.length) {
                return false;
            }
            boolean wereUp = ticksUp[side] != DOWN;
            ticksUp[side] = DOWN;
            return wereUp;
        }

        void lowerAllFlippers() {
            for (int i = 0; i < ticksUp.length; i++) {
                ticksUp[i] = DOWN;
            }
        }

        void countFlippers() {
            for (int i = 0; i < ticksUp.length; i++) {
                if (ticksUp[i] != DOWN) {
                    ticksUp[i]++;
                }
            }
        }

        void setGate(int p, boolean isOpen) {
            Place gate = placeAt(p);
            if (gate != null) {
                gate.isOpen = isOpen;
            }
        }

        void closeGates() {
            for (Place place : places) {
                place.isOpen = false;
            }
        }

        /** The switches that resting balls close, as bits by places. */
        int closedSwitches() {
            int closed = 0;
            for (Ball ball : balls) {
                Place place = ball.state == Ball.RESTS ? placeAt(ball.place) : null;
                if (place != null && !place.fails) {
                    closed |= 1 << ball.place;
                }
            }
            return closed;
        }

        static boolean holds(int bits, int p) {
            return (bits >> p & 1) != 0;
        }

        /** Whether a switch is seen as closed by bad diodes, three others being closed. */
        boolean isGhost(int p, int closed) {
            Place place = placeAt(p);
            if (!hasBadDiodes || place == null || place.fails || holds(closed, p)) {
                return false;
            }
            int row = p / WIDTH;
            int column = p % WIDTH;
            for (int r = 0; r < WIDTH; r++) {
                for (int c = 0; c < WIDTH; c++) {
                    if (r != row && c != column && holds(closed, row * WIDTH + c)
                            && holds(closed, r * WIDTH + column) && holds(closed, r * WIDTH + c)) {
                        return true;
                    }
                }
            }
            return false;
        }

        void lookForGhosts(Events events) {
            int closed = closedSwitches();
            for (int i = 0; i < placeCount && i < places.length; i++) {
                boolean isGhost = isGhost(i, closed);
                if (isGhost && !places[i].wasGhost) {
                    events.put(Rule.SWITCH, i);
                }
                places[i].wasGhost = isGhost;
            }
        }

        boolean ballsAreSomewhere() {
            for (Ball ball : balls) {
                boolean isOnTable = ball.state == Ball.IN_LANE && ball.left > 0
                        || ball.state == Ball.RESTS && ball.left == 0;
                if (ball.state != Ball.HOME && (!isOnTable || placeAt(ball.place) == null)) {
                    return false;
                }
            }
            return true;
        }

        void forgetPlay() {
            for (Place place : places) {
                place.forgetPlay();
            }
            for (Ball ball : balls) {
                ball.goHome();
            }
            lowerAllFlippers();
            quietTicks = 0;
        }
    }

    /** The events of one tick in their order; those behind the 20th are lost. */
    private static final class Events {
        private static final int MOST = 20;

        private final char[] kinds = new char[MOST];
        private final int[] numbers = new int[MOST];
        private int count;

        void forgetAll() {
            count = 0;
        }

        void put(char kind, int number) {
            if (count >= 0 && count < kinds.length && count < numbers.length) {
                kinds[count] = kind;
                numbers[count] = number;
                count++;
            }
        }

        char kindOf(int event) {
            return event >= 0 && event < kinds.length ? kinds[event] : ' ';
        }

        /** The place of a switch's event, the mode of another. */
        int numberOf(int event) {
            return event >= 0 && event < numbers.length ? numbers[event] : 0;
        }
    }

    /** A rule of a mode. */
    private static final class Rule {
        static final char SWITCH = 's';
        static final char TIMER = 't';
        static final char BEGINNING = 'b';
        private static final int MOST_ACTIONS = 4;
        private static final int NO_MODE = -1;

        private int mode = NO_MODE;
        private char trigger;
        private int place;
        private boolean eats;
        private boolean hasCondition;
        private int variable;
        private char sign;
        private int number;
        private int actions;
        private final char[] kinds = new char[MOST_ACTIONS];
        private final int[] numbers = new int[MOST_ACTIONS];

        void define(int itsMode, char itsTrigger, int itsPlace, boolean canEat) {
            mode = itsMode;
            trigger = itsTrigger;
            place = itsPlace;
            eats = canEat;
        }

        void setCondition(int itsVariable, char itsSign, int itsNumber) {
            hasCondition = true;
            variable = itsVariable;
            sign = itsSign;
            number = itsNumber;
        }

        boolean takesAction() {
            return actions < MOST_ACTIONS;
        }

        int addAction(char kind, int n) {
            if (actions >= 0 && actions < kinds.length && actions < numbers.length) {
                kinds[actions] = kind;
                numbers[actions] = n;
                actions++;
            }
            return actions;
        }

        char kindOf(int action) {
            return action >= 0 && action < kinds.length ? kinds[action] : ' ';
        }

        int numberOf(int action) {
            return action >= 0 && action < numbers.length ? numbers[action] : 0;
        }

        boolean fits(int aMode, char aTrigger, int aPlace) {
            return mode == aMode && trigger == aTrigger && (trigger != SWITCH || place == aPlace);
        }

        boolean holdsFor(Player player) {
            if (!hasCondition) {
                return true;
            }
            long value = player.read(variable);
            switch (sign) {
                case '<':
                    return value < number;
                case '>':
                    return value > number;
                default:
                    return value == number;
            }
        }
    }

    /** A mode with its rank and its timer, which is 0 if it does not run out. */
    private static final class Mode {
        static final int MODES = 6;
        static final int HIGHEST_RANK = 9;

        private int rank;
        private boolean isRunning;
        private int timer;

        void end() {
            isRunning = false;
            timer = 0;
        }

        /** Whether the timer runs out by this tick. */
        boolean runsOut() {
            if (!isRunning || timer <= 0) {
                return false;
            }
            timer--;
            return timer == 0;
        }
    }

    /** A player, and what was written down of the points given. */
    private static final class Player {
        static final int VARIABLES = 6;
        static final int LAMPS = 16;
        private static final int MULTIPLIERS = 10;

        private long points;
        private int lamps;
        /** In a long game these grow beyond what an int holds, and conditions compare them. */
        private final long[] variables = new long[VARIABLES];
        /** By multipliers: the points that actions gave, and the bonus that was paid, before multiplying. */
        private final long[] written = new long[MULTIPLIERS];

        void forgetAll() {
            points = 0;
            lamps = 0;
            for (int i = 0; i < variables.length; i++) {
                variables[i] = 0;
            }
            for (int i = 0; i < written.length; i++) {
                written[i] = 0;
            }
        }

        long read(int variable) {
            return variable >= 0 && variable < variables.length ? variables[variable] : 0;
        }

        void write(int variable, long value) {
            if (variable >= 0 && variable < variables.length) {
                variables[variable] = value;
            }
        }

        void light(int lamp, boolean isLit) {
            int bit = 1 << lamp;
            lamps = isLit ? lamps | bit : lamps & ~bit;
        }

        void earn(long amount, int multiplier) {
            points += amount * multiplier;
            if (multiplier >= 0 && multiplier < written.length) {
                written[multiplier] += amount;
            }
        }

        long pointsWrittenDown() {
            long sum = 0;
            for (int i = 0; i < written.length; i++) {
                sum += written[i] * i;
            }
            return sum;
        }
    }

    /** What is forgotten when the next ball begins. */
    private static final class Turn {
        private int multiplier = 1;
        /** In a long ball this grows beyond what an int holds. */
        private long bonus;
        private boolean hasExtraBall;
        private boolean wasSaved;
        private boolean isTilted;
        private int warnings;
        private int swing;
        private int ticks;

        void startAnew() {
            multiplier = 1;
            bonus = 0;
            hasExtraBall = false;
            wasSaved = false;
            isTilted = false;
            warnings = 0;
            swing = 0;
            ticks = 0;
        }
    }

    /** The audits, and the two places that keep them without power. */
    private static final class Audits {
        static final int GAMES = 0;
        static final int BALLS = 1;
        static final int TILTS = 2;
        static final int COINS = 3;
        static final int POINTS = 4;
        static final int COUNTS = 5;
        static final int WRITTEN = 7;
        private static final int NONE = -1;

        private final long[] counts = new long[COUNTS];
        private final long[][] rows = new long[2][WRITTEN];
        private int times;
        private boolean wasEverSaved;

        long read(int which) {
            return which >= 0 && which < counts.length ? counts[which] : 0;
        }

        void add(int which, long amount) {
            if (which >= 0 && which < counts.length) {
                counts[which] += amount;
            }
        }

        int saveAll() {
            write(WRITTEN);
            times++;
            return times;
        }

        /** Writes so many of the 7 numbers, then power may be gone. */
        void write(int howMany) {
            int row = newerRow() == 0 ? 1 : 0;
            long sum = 0;
            for (int i = 0; i < WRITTEN; i++) {
                long number = sum;
                if (i < WRITTEN - 1) {
                    number = i == 0 ? times + 1L : read(i - 1);
                    sum += number;
                }
                if (i < howMany) {
                    setNumber(row, i, number);
                }
            }
            wasEverSaved = wasEverSaved || howMany >= WRITTEN;
        }

        void load() {
            int newer = newerRow();
            times = (int) numberAt(newer, 0);
            for (int i = 0; i < counts.length; i++) {
                counts[i] = numberAt(newer, i + 1);
            }
        }

        boolean isReadable() {
            return !wasEverSaved || newerRow() != NONE;
        }

        /** The newer row that was saved at least once and has a right sum, or NONE. */
        private int newerRow() {
            int newer = NONE;
            for (int i = 0; i < rows.length; i++) {
                if (isRight(i) && (newer == NONE || numberAt(i, 0) > numberAt(newer, 0))) {
                    newer = i;
                }
            }
            return newer;
        }

        private boolean isRight(int row) {
            long sum = 0;
            for (int i = 0; i < WRITTEN - 1; i++) {
                sum += numberAt(row, i);
            }
            return numberAt(row, 0) >= 1 && numberAt(row, WRITTEN - 1) == sum;
        }

        /** A number of a row, 0 of NONE. */
        private long numberAt(int row, int i) {
            return row >= 0 && row < rows.length && i >= 0 && i < rows[row].length ? rows[row][i] : 0;
        }

        private void setNumber(int row, int i, long number) {
            if (row >= 0 && row < rows.length && i >= 0 && i < rows[row].length) {
                rows[row][i] = number;
            }
        }
    }

    /** Coins and games: the rules at work, whose turn it is, and the end of balls. */
    private static final class Play {
        static final int MOST_PLAYERS = 4;
        private static final int BALLS_EACH = 3;
        private static final int SAVING_TICKS = 60;
        private static final int POINTS_FOR_CREDIT = 5000;

        private final Field field;
        private final Audits audits;
        private final Rule[] rules;
        private final Mode[] modes = new Mode[Mode.MODES];
        private final Player[] players = new Player[MOST_PLAYERS];
        private final Events events = new Events();
        private final Turn turn = new Turn();
        private boolean isOn;
        private int playerCount;
        private int whoseTurn;
        private int ballNumber;
        private int oddCoins;
        private int credits;
        private int savedBalls;
        private int endedBalls;

        Play(Field itsField, Audits itsAudits, Rule[] itsRules) {
            field = itsField;
            audits = itsAudits;
            rules = itsRules;
            for (int i = 0; i < modes.length; i++) {
                modes[i] = new Mode();
            }
            for (int i = 0; i < players.length; i++) {
                players[i] = new Player();
            }
        }

        /** As in a new machine, but for the ranks of modes. */
        void forgetAll() {
            isOn = false;
            playerCount = 0;
            oddCoins = 0;
            credits = 0;
            savedBalls = 0;
            endedBalls = 0;
            turn.startAnew();
            for (Mode mode : modes) {
                mode.end();
            }
        }

        Mode modeAt(int m) {
            return m >= 0 && m < modes.length ? modes[m] : null;
        }

        Player playerAt(int p) {
            return p >= 0 && p < playerCount && p < players.length ? players[p] : null;
        }

        long sumOfPoints() {
            long sum = 0;
            for (int i = 0; i < playerCount && i < players.length; i++) {
                sum += players[i].points;
            }
            return sum;
        }

        boolean pointsAreWrittenDown() {
            for (int i = 0; i < playerCount && i < players.length; i++) {
                if (players[i].points != players[i].pointsWrittenDown()) {
                    return false;
                }
            }
            return true;
        }

        int takeCoins(int coins) {
            audits.add(Audits.COINS, coins);
            credits += (oddCoins + coins) / 2;
            oddCoins = (oddCoins + coins) % 2;
            return credits;
        }

        void beginGame(int howMany) {
            credits -= howMany;
            audits.add(Audits.GAMES, 1);
            isOn = true;
            playerCount = howMany;
            for (Player player : players) {
                player.forgetAll();
            }
            whoseTurn = 0;
            ballNumber = 1;
            setMainMode(true);
            beginBall();
        }

        /** The mode 0 does not begin by an action, so it puts no event. */
        private void setMainMode(boolean isRunning) {
            Mode main = modeAt(0);
            if (main != null) {
                main.end();
                main.isRunning = isRunning;
            }
        }

        private void beginBall() {
            turn.startAnew();
            for (int i = 1; i < modes.length; i++) {
                modes[i].end();
            }
            field.closeGates();
            field.launch();
        }

        char takePush() {
            if (turn.isTilted) {
                return 't';
            }
            turn.swing += 3;
            if (turn.swing <= 5) {
                return '-';
            }
            turn.swing = 0;
            turn.warnings++;
            if (turn.warnings < 3) {
                return 'w';
            }
            turn.isTilted = true;
            audits.add(Audits.TILTS, 1);
            field.lowerAllFlippers();
            return 't';
        }

        /** Returns how many events of places were given. */
        int passTick() {
            turn.ticks++;
            events.forgetAll();
            field.coolCoils();
            runTimers();
            field.moveBalls(events);
            field.dropFromFlippers();
            field.lookForGhosts(events);
            int given = giveEvents();
            field.countQuietTicks(given);
            if (field.allAreHome()) {
                saveOrEndBall();
            }
            field.countFlippers();
            if (turn.ticks % 10 == 0 && turn.swing > 0) {
                turn.swing--;
            }
            return given;
        }

        private void runTimers() {
            for (int i = 0; i < modes.length; i++) {
                if (modes[i].runsOut()) {
                    events.put(Rule.TIMER, i);
                }
            }
        }

        private int giveEvents() {
            int ofPlaces = 0;
            // rules put further events behind while these are given
            for (int i = 0; i < events.count && i < Events.MOST; i++) {
                char kind = events.kindOf(i);
                int number = events.numberOf(i);
                if (kind == Rule.SWITCH) {
                    ofPlaces++;
                }
                if (turn.isTilted) {
                    continue;
                }
                if (kind == Rule.SWITCH) {
                    giveToModes(number);
                } else if (runsMode(number)) {
                    doRules(number, kind, 0);
                }
            }
            return ofPlaces;
        }

        private boolean runsMode(int m) {
            return m >= 0 && m < modes.length && modes[m].isRunning;
        }

        private void giveToModes(int place) {
            int ran = 0;
            for (int i = 0; i < modes.length; i++) {
                if (modes[i].isRunning) {
                    ran |= 1 << i;
                }
            }
            for (int rank = Mode.HIGHEST_RANK; rank >= 0; rank--) {
                for (int i = 0; i < modes.length; i++) {
                    boolean isItsTurn = Field.holds(ran, i) && modes[i].rank == rank;
                    if (isItsTurn && modes[i].isRunning && doRules(i, Rule.SWITCH, place)) {
                        return;
                    }
                }
            }
        }

        /** Does the rules of a mode that fit; true if one of them eats. */
        private boolean doRules(int mode, char trigger, int place) {
            Player player = playerAt(whoseTurn);
            if (player == null) {
                return false;
            }
            boolean isEaten = false;
            for (Rule rule : rules) {
                if (rule.fits(mode, trigger, place) && rule.holdsFor(player)) {
                    for (int i = 0; i < rule.actions; i++) {
                        act(player, rule, rule.kindOf(i), rule.numberOf(i));
                    }
                    isEaten = isEaten || rule.eats;
                }
            }
            return isEaten;
        }

        private void act(Player player, Rule rule, char kind, int n) {
            switch (kind) {
                case 'p':
                    player.earn(n * 10L, turn.multiplier);
                    break;
                case 'm':
                    turn.multiplier = n;
                    break;
                case '=':
                    player.write(rule.variable, n);
                    break;
                case '+':
                    player.write(rule.variable, player.read(rule.variable) + n);
                    break;
                case 'l':
                case 'o':
                    player.light(n, kind == 'l');
                    break;
                case 'k':
                    field.kick(n);
                    break;
                case 'g':
                case 'c':
                    field.setGate(n, kind == 'g');
                    break;
                case 'B':
                    turn.bonus += n * 100L;
                    break;
                case 'E':
                    turn.hasExtraBall = true;
                    break;
                case 'L':
                    field.launch();
                    break;
                default:
                    actOnMode(rule, kind, n);
                    break;
            }
        }

        private void actOnMode(Rule rule, char kind, int n) {
            Mode mode = modeAt(kind == 'T' ? rule.mode : n);
            if (mode == null) {
                return;
            }
            if (kind == 'T') {
                mode.timer = n;
            } else if (kind == 'X') {
                mode.end();
            } else if (kind == 'S' && !mode.isRunning) {
                mode.isRunning = true;
                events.put(Rule.BEGINNING, n);
            }
        }

        private void saveOrEndBall() {
            if (turn.ticks < SAVING_TICKS && !turn.wasSaved && !turn.isTilted) {
                turn.wasSaved = true;
                savedBalls++;
                field.launch();
                return;
            }
            Player player = playerAt(whoseTurn);
            if (player != null && !turn.isTilted) {
                player.earn(turn.bonus, turn.multiplier);
            }
            endedBalls++;
            audits.add(Audits.BALLS, 1);
            if (!turn.hasExtraBall) {
                passTurn();
            }
            if (ballNumber > BALLS_EACH) {
                endGame();
            } else {
                beginBall();
            }
        }

        private void passTurn() {
            whoseTurn++;
            if (whoseTurn >= playerCount) {
                whoseTurn = 0;
                ballNumber++;
            }
        }

        private void endGame() {
            isOn = false;
            setMainMode(false);
            field.lowerAllFlippers();
            audits.add(Audits.POINTS, sumOfPoints());
            for (int i = 0; i < playerCount && i < players.length; i++) {
                if (players[i].points >= POINTS_FOR_CREDIT) {
                    credits++;
                }
            }
        }
    }
}
