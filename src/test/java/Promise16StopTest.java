/** Promise 16: An ASK is stopped (yes) or goes on: true; false: none such, it is so. */
public final class Promise16StopTest {
    private static final Checks CHECK = new Checks();

    public static void main(String[] args) throws IllegalAccessException {
        CHECK.runAll(Promise16StopTest.class);
    }

    private static Desk withAsks(int asks) {
        Desk desk = new Desk();
        for (int i = 0; i < asks; i++) {
            desk.ask(0, 0, i);
        }
        return desk;
    }

    static void promise16StopsAndGoesOn() {
        Desk desk = withAsks(2);
        CHECK.same("at first", desk.look(0, 5), 0);
        CHECK.yes("stop(0, true)", desk.stop(0, true));
        CHECK.same("look(0, 5)", desk.look(0, 5), 1);
        CHECK.same("the other one", desk.look(1, 5), 0);
        CHECK.yes("stop(0, false)", desk.stop(0, false));
        CHECK.same("look(0, 5)", desk.look(0, 5), 0);
        CHECK.yes("once more", desk.stop(0, true));
    }

    /** "none such". */
    static void promise16RefusesAsksThatAreNotThere() {
        CHECK.no("without asks", new Desk().stop(0, true));
        Desk desk = withAsks(2);
        CHECK.never("stop", ask -> desk.stop(ask, true), 2, 3, 20, Checks.MAX, -1, Checks.MIN);
        CHECK.never("go on", ask -> desk.stop(ask, false), 2, 3, 20, Checks.MAX, -1, Checks.MIN);
        CHECK.same("look(0, 5)", desk.look(0, 5), 0);
        CHECK.same("look(1, 5)", desk.look(1, 5), 0);
    }

    static void promise16TakesTheTwentiethAsk() {
        Desk desk = withAsks(20);
        CHECK.no("stop(20, true)", desk.stop(20, true));
        CHECK.yes("stop(19, true)", desk.stop(19, true));
        CHECK.same("look(19, 5)", desk.look(19, 5), 1);
    }

    /** "it is so": a new one goes on. */
    static void promise16RefusesToGoOnWhereItGoesOn() {
        Desk desk = withAsks(1);
        CHECK.no("a new one", desk.stop(0, false));
        desk.stop(0, true);
        desk.stop(0, false);
        CHECK.no("one that goes on again", desk.stop(0, false));
        CHECK.same("look(0, 5)", desk.look(0, 5), 0);
        CHECK.same("due(0)", desk.due(0), 28);
    }

    /** "it is so". */
    static void promise16RefusesToStopWhereItIsStopped() {
        Desk desk = withAsks(1);
        desk.stop(0, true);
        CHECK.no("at once", desk.stop(0, true));
        desk.days(9);
        CHECK.no("later", desk.stop(0, true));
        CHECK.same("look(0, 5)", desk.look(0, 5), 1);
    }

    /** A stop that was refused begins nothing anew: the days stopped before it count as stopped. */
    static void promise16KeepsTheFirstDayOfAStop() {
        Desk desk = withAsks(1);
        desk.days(1);
        desk.stop(0, true);
        desk.days(2);
        desk.stop(0, true);
        desk.days(1);
        desk.stop(0, false);
        CHECK.same("without days 1, 2 and 3", desk.due(0), 31);
    }

    static void promise16RefusedStopsLeaveAllAsItWas() {
        CHECK.unchanged(desk -> {
            CHECK.never("stop", ask -> desk.stop(ask, true), 1, 3, -1, Checks.MIN, Checks.MAX);
            CHECK.never("go on", ask -> desk.stop(ask, false), 0, 2, 3, -1, Checks.MIN, Checks.MAX);
        });
    }
}
