/** Promises 1 to 6: a new object, place, lane, isWhole, fail, spoil. */
public final class TableTest {
    public static void main(String[] args) {
        newObject();
        places();
        lanes();
        wholeness();
        faults();
        Checks.end("TableTest");
    }

    private static void newObject() {
        Tiltcourt x = new Tiltcourt();
        Checks.same("isWhole of a new one", x.isWhole(), false);
        Checks.same("player of a new one", x.player(), -1);
        Checks.same("ball of a new one", x.ball(), 0);
        Checks.same("bonus of a new one", x.bonus(), 0);
        Checks.same("spoil of a new one", x.spoil(false), false);
        Checks.same("isConsistent of a new one", x.isConsistent(), true);
        for (int i = 0; i < 4; i++) {
            Checks.same("state of a new one", x.state(i), '-');
        }
        for (int i = 0; i < 5; i++) {
            Checks.same("audit of a new one", x.audit(i), 0);
        }
        for (int i = 0; i < 6; i++) {
            Checks.same("runs of a new one", x.runs(i), false);
            Checks.same("rank of a new one", x.rank(i, 0), 0);
        }
        Checks.fails("place 0 of a new one", IndexOutOfBoundsException.class, () -> x.heat(0));
        Checks.fails("rule 0 of a new one", IndexOutOfBoundsException.class, () -> x.action(0, 'p', 1));
        Checks.fails("begin of a new one", IllegalStateException.class, () -> x.begin(1));
    }

    private static void places() {
        Tiltcourt x = new Tiltcourt();
        Class<? extends RuntimeException> argument = IllegalArgumentException.class;
        Checks.fails("kind a", argument, () -> x.place('a', 0));
        Checks.fails("kind P", argument, () -> x.place('P', 0));
        Checks.fails("kind 0", argument, () -> x.place((char) 0, 0));
        for (char kind : "pbhgd".toCharArray()) {
            Checks.fails(kind + " with 1", argument, () -> x.place(kind, 1));
            Checks.fails(kind + " with -1", argument, () -> x.place(kind, -1));
        }
        Checks.fails("a ramp of 0", argument, () -> x.place('r', 0));
        Checks.fails("a ramp of 21", argument, () -> x.place('r', 21));
        Checks.fails("a flipper of -1", argument, () -> x.place('f', -1));
        Checks.fails("a flipper of 2", argument, () -> x.place('f', 2));
        Checks.same("place", x.place('p', 0), 0);
        Checks.same("place", x.place('r', 1), 1);
        Checks.same("place", x.place('r', 20), 2);
        Checks.same("place", x.place('f', 0), 3);
        Checks.same("place", x.place('f', 1), 4);
        for (int i = 5; i < 16; i++) {
            Checks.same("place", x.place("bhgd".charAt(i % 4), 0), i);
        }
        Checks.fails("a 17th place", IllegalStateException.class, () -> x.place('p', 0));
        Checks.fails("a 17th place of no kind", argument, () -> x.place('x', 0));

        Tiltcourt on = Checks.lanes(Checks.machine("pd"), 0, 1, 100);
        Checks.start(on, 1);
        Checks.fails("a place in a game", IllegalStateException.class, () -> on.place('p', 0));
        Checks.fails("no kind in a game", argument, () -> on.place('?', 0));
    }

    private static void lanes() {
        Tiltcourt x = Checks.machine("pdp");
        Class<? extends RuntimeException> index = IndexOutOfBoundsException.class;
        Checks.fails("lane from -1", index, () -> x.lane(-1, 0, 0));
        Checks.fails("lane from 3", index, () -> x.lane(3, 0, 5));
        Checks.fails("lane to -1", index, () -> x.lane(0, -1, 5));
        Checks.fails("lane to 3", index, () -> x.lane(0, 3, 201));
        Checks.fails("lane to 16", index, () -> x.lane(0, 16, 5));
        Checks.fails("length 0", IllegalArgumentException.class, () -> x.lane(0, 1, 0));
        Checks.fails("length 201", IllegalArgumentException.class, () -> x.lane(1, 0, 201));
        Checks.fails("from a drain", IllegalStateException.class, () -> x.lane(1, 0, 5));
        Checks.same("lane", x.lane(0, 1, 1), 0);
        Checks.same("lane", x.lane(0, 0, 200), 1);
        Checks.same("lane", x.lane(2, 1, 7), 0);
        Checks.same("lane", x.lane(0, 2, 7), 2);
        Checks.same("lane", x.lane(0, 2, 7), 3);
        Checks.fails("a 5th lane", IllegalStateException.class, () -> x.lane(0, 1, 5));
        Checks.fails("a 5th lane of 0", IllegalArgumentException.class, () -> x.lane(0, 1, 0));
        Checks.start(x, 1);
        Checks.fails("a lane in a game", IllegalStateException.class, () -> x.lane(2, 1, 5));
        Checks.fails("a lane from 9 in a game", index, () -> x.lane(9, 1, 5));
    }

    private static void wholeness() {
        Tiltcourt x = Checks.machine("p");
        x.lane(0, 0, 1);
        Checks.same("without a drain", x.isWhole(), false);
        x.place('d', 0);
        Checks.same("with a drain", x.isWhole(), true);
        int kinds = 2;
        for (char kind : "pbhrgf".toCharArray()) {
            int place = x.place(kind, kind == 'r' ? 5 : 0);
            Checks.same(kind + " without lanes", x.isWhole(), false);
            x.lane(place, 1, 5);
            boolean needsTwo = kind == 'r' || kind == 'g' || kind == 'f';
            Checks.same(kind + " with one lane", x.isWhole(), !needsTwo);
            x.lane(place, 1, 5);
            Checks.same(kind + " with two lanes", x.isWhole(), true);
            kinds++;
        }
        Checks.same("places", kinds, 8);
        x.place('d', 0);
        Checks.same("with a second drain", x.isWhole(), true);
        Checks.same("the place 0 without a lane", Checks.machine("pd").isWhole(), false);
        Tiltcourt drainFirst = Checks.machine("dpd");
        drainFirst.lane(1, 0, 5);
        Checks.same("the place 0 a drain", drainFirst.isWhole(), false);
    }

    private static void faults() {
        Tiltcourt x = Checks.machine("pd");
        Checks.fails("fail -1", IndexOutOfBoundsException.class, () -> x.fail(-1, true));
        Checks.fails("fail 2", IndexOutOfBoundsException.class, () -> x.fail(2, true));
        Checks.same("fail", x.fail(1, true), false);
        Checks.same("fail", x.fail(1, true), true);
        Checks.same("fail", x.fail(1, false), true);
        Checks.same("fail", x.fail(1, true), false);
        Checks.same("fail of another", x.fail(0, false), false);
        Checks.same("spoil", x.spoil(true), false);
        Checks.same("spoil", x.spoil(true), true);
        Checks.same("spoil", x.spoil(false), true);

        x.lane(0, 1, 12);
        Checks.start(x, 1);
        Checks.same("a failing switch gives no event", x.tick(1), 0);
        Checks.same("fail in a game", x.fail(1, false), true);
        Checks.same("a switch that does not fail", x.tick(1), 1);
    }
}
