/** Audits and cuts of power: promises 29 to 34. */
public final class AuditTest {
    public static void main(String[] args) {
        wrongArguments();
        firstCuts();
        savesAndCuts();
        whatACutForgets();
        shareAndMean();
        allNumbersSurvive();
        turnAfterCut();
        Checks.end("AuditTest");
    }

    private static void wrongArguments() {
        Tiltcourt x = new Tiltcourt();
        Checks.fails("cut -1", IllegalArgumentException.class, () -> x.cut(-1));
        Checks.fails("cut 8", IllegalArgumentException.class, () -> x.cut(8));
        Checks.fails("audit -1", IndexOutOfBoundsException.class, () -> x.audit(-1));
        Checks.fails("audit 5", IndexOutOfBoundsException.class, () -> x.audit(5));
    }

    private static void firstCuts() {
        for (int written = 0; written <= 7; written++) {
            Tiltcourt x = new Tiltcourt();
            x.coin(9);
            Checks.same("a first cut of " + written, x.cut(written), written == 7 ? 1 : 0);
            Checks.same("its coins", x.audit(3), written == 7 ? 9 : 0);
            Checks.same("isConsistent", x.isConsistent(), true);
            x.coin(4);
            Checks.same("a save after it", x.save(), written == 7 ? 2 : 1);
            Checks.same("a cut after it", x.cut(0), written == 7 ? 2 : 1);
            Checks.same("its coins", x.audit(3), written == 7 ? 13 : 4);
        }
    }

    private static void savesAndCuts() {
        for (int written = 0; written <= 7; written++) {
            Tiltcourt x = new Tiltcourt();
            for (int i = 1; i <= 5; i++) {
                x.coin(i);
                Checks.same("save", x.save(), i);
            }
            x.coin(20);
            Checks.same("coins", x.audit(3), 35);
            int found = written == 7 ? 6 : 5;
            Checks.same("a cut of " + written, x.cut(written), found);
            Checks.same("its coins", x.audit(3), written == 7 ? 35 : 15);
            Checks.same("a second cut", x.cut(3), found);
            Checks.same("its coins", x.audit(3), written == 7 ? 35 : 15);
            x.coin(1);
            Checks.same("save", x.save(), found + 1);
            Checks.same("a third cut", x.cut(6), found + 1);
            Checks.same("its coins", x.audit(3), written == 7 ? 36 : 16);
            Checks.same("isConsistent", x.isConsistent(), true);
        }
        Tiltcourt equal = new Tiltcourt();
        equal.coin(1);
        Checks.same("save", equal.save(), 1);
        Checks.same("save", equal.save(), 2);
        Checks.same("a cut without anything new but the number", equal.cut(6), 2);
        Checks.same("coins", equal.audit(3), 1);
    }

    private static void whatACutForgets() {
        Tiltcourt x = Checks.lanes(Checks.machine("phfd"), 0, 1, 12, 1, 1, 8, 2, 3, 5, 2, 3, 5);
        Checks.rule(x, 0, 's', 1, "k1", "S1", "B1", "l1");
        x.rank(1, 7);
        x.fail(2, true);
        x.spoil(true);
        x.coin(5);
        x.begin(1);
        x.press(0);
        x.tick(3);
        Checks.same("heat before", x.heat(1), 34);
        Checks.same("cut", x.cut(7), 1);
        Checks.same("player", x.player(), -1);
        Checks.same("ball", x.ball(), 0);
        Checks.same("bonus", x.bonus(), 0);
        Checks.same("state", x.state(0), '-');
        Checks.same("heat", x.heat(1), 0);
        Checks.same("runs 0", x.runs(0), false);
        Checks.same("runs 1", x.runs(1), false);
        Checks.fails("points", IndexOutOfBoundsException.class, () -> x.points(0));
        Checks.fails("mean points", ArithmeticException.class, () -> x.meanPoints());
        Checks.same("audit of games", x.audit(0), 1);
        Checks.same("the rank stays", x.rank(1, 7), 7);
        Checks.same("the fault stays", x.fail(2, true), true);
        Checks.same("the diodes stay bad", x.spoil(true), true);
        Checks.same("the table stays", x.isWhole(), true);
        Checks.same("credits and the odd coin are lost", x.coin(1), 0);
        Checks.same("coins that come after it", x.coin(1), 1);
        x.begin(1);
        Checks.same("flippers are down", x.letGo(0), false);
        x.tick(1);
        Checks.same("rules stay", x.lamps(0), 2);
        Checks.same("a new rule is the next", x.cut(0) + x.rule(0, 't', 0, false), 2);
    }

    private static void shareAndMean() {
        Tiltcourt x = Checks.lanes(Checks.machine("pd"), 0, 1, 12);
        int rule = Checks.rule(x, 0, 's', 1, "p1", "+1");
        x.condition(rule, 0, '<', 1);
        x.coin(8);
        x.begin(3);
        x.tick(1);
        Checks.same("share of 1 saved", x.savedShare(), 1.0);
        Checks.same("mean", x.meanPoints(), 10.0 / 3.0);
        x.tick(2);
        Checks.same("share of 2 saved of 3", x.savedShare(), (double) (2.0f / 3.0f));
        Checks.same("mean", x.meanPoints(), 20.0 / 3.0);
        Checks.same("save", x.save(), 1);
        x.cut(2);
        Checks.same("audit of balls", x.audit(1), 1);
        Checks.fails("share since power came", ArithmeticException.class, () -> x.savedShare());
        Checks.fails("mean since power came", ArithmeticException.class, () -> x.meanPoints());
    }

    private static void allNumbersSurvive() {
        Tiltcourt x = Checks.lanes(Checks.machine("pd"), 0, 1, 12);
        Checks.rule(x, 0, 's', 1, "p3");
        Checks.start(x, 1);
        for (int i = 0; i < 6; i++) {
            x.push();
        }
        x.tick(100);
        Checks.start(x, 2);
        x.tick(2);
        for (int which = 0; which < 5; which++) {
            Checks.same("audit " + which, x.audit(which), new int[] {2, 4, 1, 6, 120}[which]);
        }
        Checks.same("save", x.save(), 1);
        x.tick(100);
        Checks.start(x, 1);
        for (int i = 0; i < 6; i++) {
            x.push();
        }
        x.tick(1);
        Checks.same("audit of games goes on", x.audit(0), 3);
        Checks.same("cut", x.cut(1), 1);
        for (int which = 0; which < 5; which++) {
            Checks.same("audit found " + which, x.audit(which), new int[] {2, 4, 1, 6, 120}[which]);
        }
    }

    private static void turnAfterCut() {
        Tiltcourt x = Checks.lanes(Checks.machine("pd"), 0, 1, 12);
        Checks.start(x, 2);
        x.tick(2);
        Checks.same("player", x.player(), 1);
        x.cut(7);
        Checks.start(x, 2);
        Checks.same("player of a new game", x.player(), 0);
        Checks.same("ball of a new game", x.ball(), 1);
    }
}
