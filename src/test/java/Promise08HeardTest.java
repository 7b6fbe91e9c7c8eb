/** Promise 8: A person was heard: true; false: none such, it is so. */
public final class Promise08HeardTest {
    private static final Checks CHECK = new Checks();

    public static void main(String[] args) throws IllegalAccessException {
        CHECK.runAll(Promise08HeardTest.class);
    }

    /** "persons (0 .. 7)". */
    static void promise08TakesPersonsZeroToSeven() {
        Desk desk = new Desk();
        for (int person = 7; person >= 0; person--) {
            CHECK.yes("heard(" + person + ")", desk.heard(person));
        }
    }

    /** "none such". */
    static void promise08RefusesPersonsThatAreNotThere() {
        Desk desk = new Desk();
        CHECK.never("heard", desk::heard, 8, 9, 31, 32, 39, 64, Checks.MAX, -1, -25, -32, Checks.MIN);
        for (int person = 0; person < 8; person++) {
            CHECK.yes("heard(" + person + ")", desk.heard(person));
        }
    }

    /** "it is so". */
    static void promise08RefusesAPersonTwice() {
        Desk desk = new Desk();
        for (int person = 0; person < 8; person++) {
            CHECK.yes("heard(" + person + ")", desk.heard(person));
            CHECK.no("heard(" + person + ") again", desk.heard(person));
        }
        CHECK.never("heard at last", desk::heard, 0, 1, 2, 3, 4, 5, 6, 7);
    }

    static void promise08NeedsNoPaperOfThePerson() {
        Desk desk = Desk.withText(1);
        desk.judge(0, true);
        desk.ask(0, 0, 0);
        CHECK.yes("heard before", desk.heard(5));
        desk.third(0, 5, true);
        CHECK.same("given at once", desk.answer(0, 1), 1);
    }

    static void promise08IsForAllPapersOfThePerson() {
        Desk desk = Desk.withPapers(2);
        desk.judgeUpTo(2);
        desk.third(0, 7, true);
        desk.third(1, 7, true);
        desk.ask(0, 0, 0);
        CHECK.same("none yet", desk.answer(0, 9), 0);
        desk.heard(7);
        CHECK.same("both", desk.answer(0, 9), 2);
    }

    static void promise08RefusedPersonsLeaveAllAsItWas() {
        CHECK.unchanged(desk -> CHECK.never("heard", desk::heard, 6, 8, -1, 34, Checks.MIN, Checks.MAX));
    }
}
