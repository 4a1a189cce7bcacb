/** The edges that 'Table' and the promises 1 to 6 name, a method for each sentence. */
public final class EdgeTableTest {
    private static final int[] FAR = {-1, Integer.MIN_VALUE, Integer.MAX_VALUE};

    public static void main(String[] args) {
        aNewMachineIsEmpty();
        kindsOfPlaces();
        numberOfARamp();
        sideOfAFlipper();
        numberOfOthers();
        sixteenPlaces();
        firstExceptionOfPlace();
        noPlaceInAGame();
        placesOfALane();
        lengthOfALane();
        fourLanes();
        noLaneFromADrain();
        firstExceptionOfLane();
        noLaneInAGame();
        wholeWithADrain();
        wholeWithoutADrainAtZero();
        wholeWithOneLane();
        wholeWithTwoLanes();
        wholeFromEachPlace();
        placesThatFail();
        failTellsWhatWas();
        spoilTellsWhatWas();
        Checks.end("EdgeTableTest");
    }

    /** "Creates a machine without places and rules, with good diodes." */
    private static void aNewMachineIsEmpty() {
        Tiltcourt x = new Tiltcourt();
        Checks.fails("a lane of a new one", Checks.INDEX, () -> x.lane(0, 0, 1));
        Checks.fails("a switch of a new one", Checks.INDEX, () -> x.fail(0, true));
        Checks.fails("a place of a rule of a new one", Checks.ARGUMENT, () -> x.rule(0, 's', 0, false));
        Checks.fails("a condition of a new one", Checks.INDEX, () -> x.condition(0, 0, '<', 0));
        Checks.fails("an action of a new one", Checks.INDEX, () -> x.action(0, 'p', 1));
        Checks.same("diodes of a new one", x.spoil(true), false);
        Checks.same("the first place", x.place('h', 0), 0);
        Checks.same("the first rule", x.rule(0, 't', 0, false), 0);
    }

    /** "if there is no such kind" */
    private static void kindsOfPlaces() {
        Tiltcourt x = new Tiltcourt();
        for (int i = 0; i < 300; i++) {
            char kind = (char) i;
            if ("pbhrgfd".indexOf(kind) < 0) {
                Checks.fails("kind " + i, Checks.ARGUMENT, () -> x.place(kind, 0));
                Checks.fails("kind " + i + " with 1", Checks.ARGUMENT, () -> x.place(kind, 1));
            }
        }
        Checks.fails("the last char", Checks.ARGUMENT, () -> x.place(Character.MAX_VALUE, 0));
        Checks.same("the first place after refused ones", x.place('d', 0), 0);
    }

    /** "the speed that a ramp needs, 1 to 20" */
    private static void numberOfARamp() {
        Tiltcourt x = new Tiltcourt();
        for (int far : FAR) {
            Checks.fails("a ramp of " + far, Checks.ARGUMENT, () -> x.place('r', far));
        }
        Checks.fails("a ramp of 0", Checks.ARGUMENT, () -> x.place('r', 0));
        Checks.fails("a ramp of 21", Checks.ARGUMENT, () -> x.place('r', 21));
        Checks.same("a ramp of 1", x.place('r', 1), 0);
        Checks.same("a ramp of 20", x.place('r', 20), 1);
    }

    /** "the side of a flipper, 0 or 1" */
    private static void sideOfAFlipper() {
        Tiltcourt x = new Tiltcourt();
        for (int far : FAR) {
            Checks.fails("a flipper of " + far, Checks.ARGUMENT, () -> x.place('f', far));
        }
        Checks.fails("a flipper of 2", Checks.ARGUMENT, () -> x.place('f', 2));
        Checks.same("a flipper of 0", x.place('f', 0), 0);
        Checks.same("a flipper of 1", x.place('f', 1), 1);
    }

    /** "0 for the others" */
    private static void numberOfOthers() {
        Tiltcourt x = new Tiltcourt();
        for (char kind : "pbhgd".toCharArray()) {
            for (int far : FAR) {
                Checks.fails(kind + " of " + far, Checks.ARGUMENT, () -> x.place(kind, far));
            }
            Checks.fails(kind + " of 1", Checks.ARGUMENT, () -> x.place(kind, 1));
        }
        for (int i = 0; i < 5; i++) {
            Checks.same("a place of 0", x.place("pbhgd".charAt(i), 0), i);
        }
    }

    /** "At most 16 places are numbered from 0", "if there are 16 places" */
    private static void sixteenPlaces() {
        Tiltcourt x = new Tiltcourt();
        for (int i = 0; i < 16; i++) {
            int next = i;
            Checks.fails("the place " + i + " before it is added", Checks.INDEX, () -> x.heat(next));
            Checks.same("place", x.place('p', 0), i);
        }
        Checks.fails("a 17th place", Checks.STATE, () -> x.place('p', 0));
        Checks.same("the last place", x.lane(15, 15, 1), 0);
        Checks.fails("no place 16", Checks.INDEX, () -> x.lane(15, 16, 1));
        Checks.fails("heat of 16", Checks.INDEX, () -> x.heat(16));
    }

    private static void firstExceptionOfPlace() {
        Tiltcourt x = Checks.machine("pppppppppppppppd");
        Checks.fails("no kind, and 16 places", Checks.ARGUMENT, () -> x.place('q', 0));
        Checks.fails("no number, and 16 places", Checks.ARGUMENT, () -> x.place('r', 21));
    }

    /** "or a game is on": before it and after it places are added. */
    private static void noPlaceInAGame() {
        Tiltcourt x = Checks.table("p d", 0, 1, 12);
        Checks.same("before a game", x.place('d', 0), 2);
        Checks.start(x, 1);
        Checks.fails("in a game", Checks.STATE, () -> x.place('d', 0));
        Checks.fails("no kind in a game", Checks.ARGUMENT, () -> x.place('q', 0));
        Checks.pass(x, 100);
        Checks.same("after a game", x.place('d', 0), 3);
        Checks.start(x, 1);
        Checks.fails("in the next game", Checks.STATE, () -> x.place('d', 0));
        x.cut(0);
        Checks.same("after a cut", x.place('d', 0), 4);
    }

    /** "if there is no such place, for either" */
    private static void placesOfALane() {
        Tiltcourt x = Checks.machine("pdp");
        for (int far : FAR) {
            Checks.fails("from " + far, Checks.INDEX, () -> x.lane(far, 0, 5));
            Checks.fails("to " + far, Checks.INDEX, () -> x.lane(0, far, 5));
        }
        Checks.fails("from 3", Checks.INDEX, () -> x.lane(3, 0, 5));
        Checks.fails("to 3", Checks.INDEX, () -> x.lane(0, 3, 5));
        Checks.fails("from and to 3", Checks.INDEX, () -> x.lane(3, 3, 5));
        Checks.same("to itself", x.lane(2, 2, 5), 0);
        Checks.same("to the first", x.lane(2, 0, 5), 1);
        Checks.same("to a drain", x.lane(0, 1, 5), 0);
    }

    /** "its length, 1 to 200" */
    private static void lengthOfALane() {
        Tiltcourt x = Checks.machine("pd");
        for (int far : FAR) {
            Checks.fails("length " + far, Checks.ARGUMENT, () -> x.lane(0, 1, far));
        }
        Checks.fails("length 0", Checks.ARGUMENT, () -> x.lane(0, 1, 0));
        Checks.fails("length 201", Checks.ARGUMENT, () -> x.lane(0, 1, 201));
        Checks.same("length 1", x.lane(0, 1, 1), 0);
        Checks.same("length 200", x.lane(0, 1, 200), 1);
    }

    /** "at most 4 from each one, numbered from 0 as they were laid" */
    private static void fourLanes() {
        Tiltcourt x = Checks.machine("pbhrgfd");
        for (int from = 0; from < 6; from++) {
            for (int i = 0; i < 4; i++) {
                Checks.same("lane from " + from, x.lane(from, 6, 5 + i), i);
            }
        }
        for (int from = 0; from < 6; from++) {
            int place = from;
            Checks.fails("a 5th lane from " + from, Checks.STATE, () -> x.lane(place, 6, 5));
        }
    }

    /** "it is a drain" */
    private static void noLaneFromADrain() {
        Tiltcourt x = Checks.machine("pdd");
        Checks.fails("from a drain", Checks.STATE, () -> x.lane(1, 0, 5));
        Checks.fails("from a drain to a drain", Checks.STATE, () -> x.lane(2, 1, 5));
        Checks.same("to a drain", x.lane(0, 2, 5), 0);
    }

    private static void firstExceptionOfLane() {
        Tiltcourt x = Checks.table("p d", 0, 1, 12, 0, 1, 12, 0, 1, 12, 0, 1, 12);
        Checks.fails("no place, no length", Checks.INDEX, () -> x.lane(0, 2, 0));
        Checks.fails("no place, a 5th lane", Checks.INDEX, () -> x.lane(0, 2, 5));
        Checks.fails("no length, a 5th lane", Checks.ARGUMENT, () -> x.lane(0, 1, 0));
        Checks.fails("no length, from a drain", Checks.ARGUMENT, () -> x.lane(1, 0, 201));
        Checks.start(x, 1);
        Checks.fails("no place in a game", Checks.INDEX, () -> x.lane(-1, 1, 5));
        Checks.fails("no length in a game", Checks.ARGUMENT, () -> x.lane(0, 1, 201));
    }

    /** "or a game is on" */
    private static void noLaneInAGame() {
        Tiltcourt x = Checks.table("p d", 0, 1, 12);
        Checks.start(x, 1);
        Checks.fails("in a game", Checks.STATE, () -> x.lane(0, 1, 5));
        Checks.pass(x, 100);
        Checks.same("after a game", x.lane(0, 1, 5), 1);
    }

    /** "A table is whole if there is a drain" */
    private static void wholeWithADrain() {
        Checks.same("an empty table", new Tiltcourt().isWhole(), false);
        Tiltcourt x = Checks.table("p p", 0, 1, 5, 1, 0, 5);
        Checks.same("no drain", x.isWhole(), false);
        x.coin(2);
        Checks.fails("a game without a drain", Checks.STATE, () -> x.begin(1));
        x.place('d', 0);
        Checks.same("a drain to which no lane leads", x.isWhole(), true);
        x.place('d', 0);
        Checks.same("two drains", x.isWhole(), true);
    }

    /** "the place 0 is none" */
    private static void wholeWithoutADrainAtZero() {
        Checks.same("a drain alone", Checks.machine("d").isWhole(), false);
        Checks.same("a drain at 0 and one behind", Checks.machine("dd").isWhole(), false);
        Checks.same("a drain at 0, all lanes laid", Checks.table("d p", 1, 0, 5).isWhole(), false);
        Checks.same("a drain at 1", Checks.table("p d", 0, 1, 5).isWhole(), true);
    }

    /** "'p' a plain one: 1; 'b' a bumper: 1; 'h' a hole: 1" */
    private static void wholeWithOneLane() {
        for (String kind : "p b h".split(" ")) {
            Tiltcourt x = Checks.table(kind + " d");
            Checks.same(kind + " with 0", x.isWhole(), false);
            x.lane(0, 1, 5);
            Checks.same(kind + " with 1", x.isWhole(), true);
            x.lane(0, 1, 5);
            Checks.same(kind + " with 2", x.isWhole(), true);
        }
    }

    /** "'r' a ramp, with the speed that it needs: 2; 'g' a gate: 2; 'f' a flipper, with its side, 0 or 1: 2" */
    private static void wholeWithTwoLanes() {
        for (String kind : "r1 r20 g f0 f1".split(" ")) {
            Tiltcourt x = Checks.table(kind + " d");
            Checks.same(kind + " with 0", x.isWhole(), false);
            x.lane(0, 1, 5);
            Checks.same(kind + " with 1", x.isWhole(), false);
            x.lane(0, 1, 5);
            Checks.same(kind + " with 2", x.isWhole(), true);
            x.lane(0, 1, 5);
            x.lane(0, 1, 5);
            Checks.same(kind + " with 4", x.isWhole(), true);
        }
    }

    /** "from each place at least as many lanes lead": the last of 16 places counts as the first. */
    private static void wholeFromEachPlace() {
        Tiltcourt x = Checks.machine("pdpppppppppppppp");
        for (int from = 15; from >= 0; from--) {
            Checks.same("before a lane from " + from, x.isWhole(), false);
            if (from != 1) {
                x.lane(from, 1, 5);
            }
        }
        Checks.same("a lane from each", x.isWhole(), true);
    }

    private static void placesThatFail() {
        Tiltcourt x = Checks.machine("ppd");
        for (int far : FAR) {
            Checks.fails("fail " + far, Checks.INDEX, () -> x.fail(far, true));
        }
        Checks.fails("fail 3", Checks.INDEX, () -> x.fail(3, false));
        Checks.same("fail 0", x.fail(0, false), false);
        Checks.same("fail 2", x.fail(2, false), false);
    }

    /** "Returns true if it failed before." */
    private static void failTellsWhatWas() {
        Tiltcourt x = Checks.machine("pd");
        Checks.same("at first", x.fail(0, true), false);
        Checks.same("made to fail", x.fail(0, true), true);
        Checks.same("made to fail twice", x.fail(0, false), true);
        Checks.same("made not to fail", x.fail(0, false), false);
        Checks.same("another", x.fail(1, true), false);
        Checks.same("not the other", x.fail(0, false), false);
    }

    /** "Returns true if they were bad." */
    private static void spoilTellsWhatWas() {
        Tiltcourt x = new Tiltcourt();
        Checks.same("at first", x.spoil(false), false);
        Checks.same("good", x.spoil(true), false);
        Checks.same("bad", x.spoil(true), true);
        Checks.same("bad", x.spoil(false), true);
        Checks.same("good again", x.spoil(false), false);
    }
}
