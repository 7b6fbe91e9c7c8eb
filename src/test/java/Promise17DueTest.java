/**
 * Promise 17: DUE; NONE: no such ASK, it is stopped. (The DAY by which 20 working days are over behind that on which the
 * ASK came; working: not 5 or 6 modulo 7; DAYS on which it was stopped not counted.)
 */
public final class Promise17DueTest {
    private static final Checks CHECK = new Checks();

    public static void main(String[] args) throws IllegalAccessException {
        CHECK.runAll(Promise17DueTest.class);
    }

    private static Desk askedOn(int day) {
        Desk desk = new Desk();
        desk.goTo(day);
        desk.ask(0, 0, 0);
        return desk;
    }

    /** What is due of an ask of day 0 that was stopped on one day and went on, on another. */
    private static int dueWithStop(int from, int to) {
        Desk desk = askedOn(0);
        stop(desk, from, to);
        return desk.due(0);
    }

    private static void stop(Desk desk, int from, int to) {
        desk.goTo(from);
        desk.stop(0, true);
        desk.goTo(to);
        desk.stop(0, false);
    }

    /** "no such ASK". */
    static void promise17RefusesAsksThatAreNotThere() {
        CHECK.same("without asks", new Desk().due(0), -1);
        Desk desk = askedOn(0);
        CHECK.none("due", desk::due, 1, 2, 20, Checks.MAX, -1, Checks.MIN);
        CHECK.same("due(0)", desk.due(0), 28);
    }

    static void promise17TakesTheTwentiethAsk() {
        Desk desk = askedOn(0);
        for (int i = 1; i < 20; i++) {
            desk.ask(0, 0, 0);
        }
        CHECK.same("due(19)", desk.due(19), 28);
        CHECK.same("due(20)", desk.due(20), -1);
    }

    /** "it is stopped": "as long as it is stopped there is none". */
    static void promise17RefusesAStoppedAsk() {
        Desk desk = askedOn(0);
        desk.stop(0, true);
        CHECK.same("on that day", desk.due(0), -1);
        desk.days(100);
        CHECK.same("later", desk.due(0), -1);
        desk.stop(0, false);
        CHECK.yes("when it goes on", desk.due(0) > 0);
        desk.goTo(400);
        desk.stop(0, true);
        CHECK.same("stopped behind its due day", desk.due(0), -1);
    }

    /** "working: not 5 or 6 modulo 7": 20 of them, behind each day of a week, the day itself not counted. */
    static void promise17CountsTwentyWorkingDays() {
        int[] due = {28, 29, 30, 31, 32, 32, 32, 35, 36};
        for (int day = 0; day < due.length; day++) {
            CHECK.same("of day " + day, askedOn(day).due(0), due[day]);
        }
    }

    /** It is the same whatever NOW is. */
    static void promise17StaysAsDaysPass() {
        Desk desk = askedOn(0);
        int[] days = {1, 27, 28, 29, 500, 4999};
        for (int day : days) {
            desk.goTo(day);
            CHECK.same("on day " + day, desk.due(0), 28);
        }
    }

    /** A stop that ends on its own day leaves no day out. */
    static void promise17CountsADayOnWhichItStopsAndGoesOn() {
        CHECK.same("on the day it came", dueWithStop(0, 0), 28);
        CHECK.same("on day 1", dueWithStop(1, 1), 28);
        CHECK.same("on the due day", dueWithStop(28, 28), 28);
    }

    /** "stopped from a DAY on (NOW)": that day is not counted any more. */
    static void promise17LeavesOutTheDayOfTheStop() {
        CHECK.same("day 1", dueWithStop(1, 2), 29);
        CHECK.same("day 4", dueWithStop(4, 5), 29);
        CHECK.same("day 25", dueWithStop(25, 26), 29);
    }

    /** "until it goes on (that DAY, NOW, counts again)". */
    static void promise17CountsTheDayOnWhichItGoesOn() {
        CHECK.same("days 2 and 3 are left out, 4 is not", dueWithStop(2, 4), 30);
        CHECK.same("days 1 to 28 are left out, 29 is not", dueWithStop(1, 29), 56);
        CHECK.same("day 28 is left out, 29 is due", dueWithStop(28, 29), 29);
    }

    /** The day on which it came does not count, stopped or not. */
    static void promise17LeavesTheDayItCameUncounted() {
        CHECK.same("day 0", dueWithStop(0, 1), 28);
        CHECK.same("days 0 and 1", dueWithStop(0, 2), 29);
    }

    /** Days 5 and 6 modulo 7 count neither way. */
    static void promise17LosesNothingByAStopOnDaysOff() {
        CHECK.same("days 5 and 6", dueWithStop(5, 7), 28);
        CHECK.same("day 27", dueWithStop(27, 28), 28);
        CHECK.same("days 4 to 6", dueWithStop(4, 7), 29);
        CHECK.same("days 5 to 7", dueWithStop(5, 8), 29);
        CHECK.same("days 28 to 32, then days off", dueWithStop(28, 33), 35);
    }

    /** On the due day itself the 20th day can still be stopped; behind it no more. */
    static void promise17EndsWithTheDueDay() {
        CHECK.same("a stop on the due day", dueWithStop(28, 29), 29);
        CHECK.same("a stop a day behind", dueWithStop(29, 30), 28);
        CHECK.same("a long one behind", dueWithStop(29, 400), 28);
        CHECK.same("a stop two days behind", dueWithStop(30, 31), 28);
        CHECK.same("a stop far behind", dueWithStop(400, 500), 28);
    }

    static void promise17AddsAllStops() {
        Desk desk = askedOn(0);
        stop(desk, 2, 4);
        CHECK.same("one", desk.due(0), 30);
        stop(desk, 4, 4);
        CHECK.same("an empty one", desk.due(0), 30);
        stop(desk, 4, 8);
        CHECK.same("one from the day on which it went on", desk.due(0), 32);
        stop(desk, 30, 31);
        CHECK.same("one near the end", desk.due(0), 35);
        stop(desk, 36, 50);
        CHECK.same("one behind the due day", desk.due(0), 35);
    }

    /** Each ask has stops of its own. */
    static void promise17TouchesOneAskAlone() {
        Desk desk = askedOn(0);
        desk.ask(0, 0, 0);
        stop(desk, 1, 3);
        CHECK.same("due(0)", desk.due(0), 30);
        CHECK.same("due(1)", desk.due(1), 28);
    }

    /** 4999 is 1 modulo 7, a working day: one asked for on 4971 is due just there. */
    static void promise17ReachesDay4999() {
        CHECK.same("of day 4970", askedOn(4970).due(0), 4998);
        CHECK.same("of day 4971", askedOn(4971).due(0), 4999);
    }

    /** "(One that would be beyond 4999 is 4999.)" */
    static void promise17IsAtMost4999() {
        CHECK.same("of day 4972", askedOn(4972).due(0), 4999);
        CHECK.same("of day 4998", askedOn(4998).due(0), 4999);
        CHECK.same("of day 4999", askedOn(4999).due(0), 4999);
    }

    /** The same for one that stops put off so far. */
    static void promise17IsAtMost4999BehindStops() {
        CHECK.same("days 1 to 4970 left out", dueWithStop(1, 4971), 4998);
        CHECK.same("days 1 to 4971 left out", dueWithStop(1, 4972), 4999);
        CHECK.same("days 1 to 4972 left out", dueWithStop(1, 4973), 4999);
        CHECK.same("days 1 to 4998 left out", dueWithStop(1, 4999), 4999);
        Desk desk = askedOn(4970);
        stop(desk, 4998, 4999);
        CHECK.same("4998 left out", desk.due(0), 4999);
        desk.stop(0, true);
        CHECK.same("stopped on 4999", desk.due(0), -1);
        desk.stop(0, false);
        CHECK.same("going on at 4999", desk.due(0), 4999);
    }

    static void promise17AsksChangeNothing() {
        CHECK.unchanged(desk -> {
            CHECK.none("due", desk::due, 1, 3, -1, Checks.MIN, Checks.MAX);
            CHECK.same("due(0)", desk.due(0), 31);
        });
    }
}
