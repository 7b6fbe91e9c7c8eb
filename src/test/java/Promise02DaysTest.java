/** Promise 2: n DAYS pass (0 .. 500): NOW; NONE for another n, beyond 4999. */
public final class Promise02DaysTest {
    private static final Checks CHECK = new Checks();

    public static void main(String[] args) throws IllegalAccessException {
        CHECK.runAll(Promise02DaysTest.class);
    }

    private static Desk deskOn(int day) {
        Desk desk = new Desk();
        desk.goTo(day);
        return desk;
    }

    static void promise02AnswersNow() {
        Desk desk = new Desk();
        CHECK.same("days(3)", desk.days(3), 3);
        CHECK.same("days(4)", desk.days(4), 7);
        CHECK.same("count(7)", desk.count(7), 7);
    }

    /** "(0 .. 500)": the least. */
    static void promise02TakesNoDays() {
        Desk desk = deskOn(9);
        CHECK.same("days(0)", desk.days(0), 9);
        CHECK.same("count(7)", desk.count(7), 9);
        CHECK.same("days(1)", desk.days(1), 10);
    }

    /** "(0 .. 500)": the most. */
    static void promise02TakesFiveHundredDays() {
        Desk desk = deskOn(1);
        CHECK.same("days(499)", desk.days(499), 500);
        CHECK.same("days(500)", desk.days(500), 1000);
    }

    /** "NONE for another n": above 500. */
    static void promise02RefusesFiveHundredAndOneDays() {
        Desk desk = deskOn(7);
        CHECK.none("days", desk::days, 501, 502, 4992, Checks.MAX - 6, Checks.MAX);
        CHECK.same("count(7)", desk.count(7), 7);
    }

    /** "NONE for another n": below 0. */
    static void promise02RefusesLessThanNoDays() {
        Desk desk = deskOn(7);
        CHECK.none("days", desk::days, -1, -7, -8, Checks.MIN, Checks.MIN + 1);
        CHECK.same("count(7)", desk.count(7), 7);
    }

    /** "DAYS are 0 to 4999": the last one is reached. */
    static void promise02GoesUpToDay4999() {
        CHECK.same("days(499) on 4500", deskOn(4500).days(499), 4999);
        CHECK.same("days(500) on 4499", deskOn(4499).days(500), 4999);
        CHECK.same("days(1) on 4998", deskOn(4998).days(1), 4999);
    }

    /** "beyond 4999". */
    static void promise02RefusesDaysBeyond4999() {
        Desk desk = deskOn(4500);
        CHECK.same("days(500) on 4500", desk.days(500), -1);
        CHECK.same("count(7)", desk.count(7), 4500);
        desk.days(498);
        CHECK.same("days(2) on 4998", desk.days(2), -1);
        CHECK.same("days(1) on 4998", desk.days(1), 4999);
    }

    static void promise02StandsOnDay4999() {
        Desk desk = deskOn(4999);
        CHECK.none("days", desk::days, 1, 2, 500, 501, -1, Checks.MAX);
        CHECK.same("days(0)", desk.days(0), 4999);
        CHECK.same("count(7)", desk.count(7), 4999);
    }

    static void promise02RefusedDaysLeaveAllAsItWas() {
        CHECK.unchanged(desk -> CHECK.none("days", desk::days, -1, 501, Checks.MIN, Checks.MAX));
    }
}
