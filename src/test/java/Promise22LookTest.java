/**
 * Promise 22: Of an ASK, what 0: the DAY when it came, 1: PAGES given, 2: LEFT, 3: those of LEFT whose TEXT is not
 * judged, 4: what it REPEATS (NONE), 5: 1 if it is stopped, 6: WORDS, 7: 1 if it is late: not stopped, LEFT is not 0,
 * NOW is above DUE. NoSuchElementException: none such.
 */
public final class Promise22LookTest {
    private static final Checks CHECK = new Checks();

    public static void main(String[] args) throws IllegalAccessException {
        CHECK.runAll(Promise22LookTest.class);
    }

    private static void left(Desk desk, int left, int notJudged) {
        CHECK.same("look(0, 2)", desk.look(0, 2), left);
        CHECK.same("look(0, 3)", desk.look(0, 3), notJudged);
    }

    static void promise22TellsEachThing() {
        Desk desk = new Desk();
        desk.days(4);
        desk.paperOf(0, 0, 1);
        desk.pageOf(0, 2);
        desk.pageOf(0, 2);
        desk.pageOf(0, 3);
        desk.judge(0, true);
        desk.judge(2, true);
        desk.askFor(0, 0, 9, 1);
        desk.days(3);
        desk.askFor(0, 0, 9, 1, 1);
        desk.answer(1, 1);
        desk.stop(1, true);
        int[][] due = {{4, 0, 3, 1, -1, 0, 1, 0}, {7, 1, 2, 1, 0, 1, 2, 0}};
        for (int ask = 0; ask < due.length; ask++) {
            for (int what = 0; what < due[ask].length; what++) {
                CHECK.same("look(" + ask + ", " + what + ")", desk.look(ask, what), due[ask][what]);
            }
        }
    }

    /** "NoSuchElementException: none such": the ask. */
    static void promise22ThrowsForAsksThatAreNotThere() {
        Desk none = new Desk();
        CHECK.lookThrows(none, 0, 0);
        Desk desk = Desk.withPapers(1);
        desk.ask(0, 0, 0);
        desk.ask(0, 0, 0);
        int[] others = {2, 3, 20, Checks.MAX, -1, Checks.MIN};
        for (int ask : others) {
            for (int what = 0; what <= 7; what++) {
                CHECK.lookThrows(desk, ask, what);
            }
        }
    }

    static void promise22TakesTheTwentiethAsk() {
        Desk desk = Desk.withPapers(1);
        for (int i = 0; i < 20; i++) {
            desk.ask(0, 0, i);
        }
        CHECK.same("look(19, 2)", desk.look(19, 2), 1);
        CHECK.lookThrows(desk, 20, 2);
    }

    /** "NoSuchElementException: none such": the what. */
    static void promise22ThrowsForOtherThings() {
        Desk desk = Desk.withPapers(1);
        desk.ask(0, 0, 0);
        int[] others = {8, 9, 16, Checks.MAX, -1, -2, Checks.MIN};
        for (int what : others) {
            CHECK.lookThrows(desk, 0, what);
        }
        CHECK.lookThrows(desk, 1, 8);
        CHECK.lookThrows(desk, -1, -1);
        CHECK.same("look(0, 7)", desk.look(0, 7), 0);
        CHECK.same("look(0, 0)", desk.look(0, 0), 0);
    }

    /** "0: the DAY when it came": the first and the last. */
    static void promise22TellsTheDayWhenItCame() {
        Desk desk = new Desk();
        desk.ask(0, 0, 0);
        desk.goTo(4999);
        desk.ask(0, 0, 0);
        CHECK.same("look(0, 0)", desk.look(0, 0), 0);
        CHECK.same("look(1, 0)", desk.look(1, 0), 4999);
    }

    /** "1: PAGES given": for this ask, from none to all 120. */
    static void promise22CountsPagesGiven() {
        Desk desk = Desk.withPages(120);
        desk.judgeUpTo(120);
        desk.ask(0, 0, 0);
        desk.ask(0, 0, 0);
        CHECK.same("none", desk.look(0, 1), 0);
        int[] due = {50, 100, 120, 120};
        for (int pages : due) {
            desk.answer(0, 50);
            CHECK.same("look(0, 1)", desk.look(0, 1), pages);
        }
        CHECK.same("look(1, 1)", desk.look(1, 1), 0);
    }

    /** LEFT: from none to all 120 texts. */
    static void promise22CountsLeftFromNoneTo120() {
        Desk none = new Desk();
        none.ask(0, 0, 0);
        left(none, 0, 0);
        Desk desk = Desk.withPages(120);
        desk.ask(0, 0, 0);
        left(desk, 120, 120);
        desk.judge(119, true);
        left(desk, 120, 119);
        desk.answer(0, 1);
        left(desk, 119, 119);
    }

    /** "LEFT are those, each TEXT once". */
    static void promise22CountsEachTextOnce() {
        Desk desk = Desk.withText(1);
        desk.pageOf(0, 1);
        desk.paperOf(0, 0, 1);
        desk.paperOf(0, 0, 1, 2);
        desk.ask(0, 0, 0);
        left(desk, 2, 2);
        desk.judge(0, true);
        left(desk, 2, 1);
        desk.answer(0, 9);
        left(desk, 1, 1);
    }

    /** A text that waits for a third is left, judged as it is. */
    static void promise22CountsPagesThatWaitForThirds() {
        Desk desk = Desk.withText(1);
        desk.judge(0, true);
        desk.third(0, 7, true);
        desk.ask(0, 0, 0);
        desk.answer(0, 1);
        left(desk, 1, 0);
        desk.heard(7);
        left(desk, 1, 0);
        desk.answer(0, 1);
        left(desk, 0, 0);
    }

    /** "(given none of its TEXT)": another page of a text that was given is not left. */
    static void promise22CountsNoTextThatWasGiven() {
        Desk desk = Desk.withText(1);
        desk.judge(0, true);
        desk.ask(0, 0, 0);
        desk.ask(0, 0, 0);
        desk.answer(0, 1);
        desk.paperOf(0, 0, 1);
        left(desk, 0, 0);
        desk.judge(0, false);
        left(desk, 0, 0);
        CHECK.same("for the other ask", desk.look(1, 2), 1);
        CHECK.same("for the other ask", desk.look(1, 3), 1);
    }

    /** Only pages of papers that fit are left for it, as things are now. */
    static void promise22CountsPagesOfPapersThatFit() {
        Desk desk = Desk.withPapers(3);
        desk.pageOf(1, 9);
        desk.ask(0, 0, 0);
        left(desk, 4, 4);
        desk.narrow(0, 2);
        left(desk, 2, 2);
        desk.rulesOf("ground 1 when 1;");
        desk.black(1, 0, 0, 1);
        left(desk, 0, 0);
        desk.clear(1, 0);
        left(desk, 2, 2);
    }

    /** "4: what it REPEATS (NONE)". */
    static void promise22TellsWhatItRepeats() {
        Desk desk = new Desk();
        desk.ask(0, 0, 0);
        desk.ask(0, 0, 0);
        CHECK.same("look(0, 4)", desk.look(0, 4), -1);
        CHECK.same("look(1, 4)", desk.look(1, 4), 0);
    }

    /** "5: 1 if it is stopped", else 0. */
    static void promise22TellsWhetherItIsStopped() {
        Desk desk = new Desk();
        desk.ask(0, 0, 0);
        CHECK.same("a new one", desk.look(0, 5), 0);
        desk.stop(0, true);
        CHECK.same("stopped", desk.look(0, 5), 1);
        desk.stop(0, false);
        CHECK.same("going on", desk.look(0, 5), 0);
    }

    /** "6: WORDS": from none to four. */
    static void promise22CountsItsWords() {
        Desk desk = new Desk();
        desk.ask(0, 0, 0);
        desk.askFor(0, 0, 0, 1, 2, 3, 4);
        CHECK.same("none", desk.look(0, 6), 0);
        CHECK.same("four", desk.look(1, 6), 4);
        desk.narrow(0, 5);
        CHECK.same("narrowed", desk.look(0, 6), 1);
    }

    /** "NOW is above DUE": not on the due day, but a day behind. */
    static void promise22IsLateADayBehindTheDueDay() {
        Desk desk = Desk.withText(1);
        desk.ask(0, 0, 0);
        desk.days(27);
        CHECK.same("a day before", desk.look(0, 7), 0);
        desk.days(1);
        CHECK.same("on the due day", desk.look(0, 7), 0);
        desk.days(1);
        CHECK.same("a day behind", desk.look(0, 7), 1);
        desk.goTo(4999);
        CHECK.same("on the last day", desk.look(0, 7), 1);
    }

    /** "not stopped". */
    static void promise22IsNotLateWhileStopped() {
        Desk desk = Desk.withText(1);
        desk.ask(0, 0, 0);
        desk.days(29);
        desk.stop(0, true);
        CHECK.same("stopped", desk.look(0, 7), 0);
        desk.days(50);
        CHECK.same("stopped for long", desk.look(0, 7), 0);
        desk.stop(0, false);
        CHECK.same("going on", desk.look(0, 7), 1);
    }

    /** A stop before the due day puts it off. */
    static void promise22IsNotLateBeforeAPutOffDueDay() {
        Desk desk = Desk.withText(1);
        desk.ask(0, 0, 0);
        desk.days(28);
        desk.stop(0, true);
        desk.days(1);
        desk.stop(0, false);
        CHECK.same("on the new due day", desk.look(0, 7), 0);
        desk.days(1);
        CHECK.same("a day behind", desk.look(0, 7), 1);
    }

    /** "LEFT is not 0". */
    static void promise22IsNotLateWhereNothingIsLeft() {
        Desk desk = Desk.withText(1);
        desk.judge(0, true);
        desk.ask(0, 0, 0);
        desk.askFor(0, 0, 0, 99);
        desk.days(29);
        CHECK.same("one left", desk.look(0, 7), 1);
        CHECK.same("nothing fits", desk.look(1, 7), 0);
        desk.answer(0, 1);
        CHECK.same("all given", desk.look(0, 7), 0);
        desk.pageOf(0, 2);
        CHECK.same("a page more", desk.look(0, 7), 1);
    }

    /** One that is due on 4999 can't be late any more. */
    static void promise22IsNotLateOnDay4999WhereThatIsDue() {
        Desk desk = Desk.withText(1);
        desk.goTo(4970);
        desk.ask(0, 0, 0);
        desk.days(1);
        desk.ask(0, 0, 0);
        desk.days(1);
        desk.ask(0, 0, 0);
        desk.goTo(4999);
        CHECK.same("due on 4998", desk.look(0, 7), 1);
        CHECK.same("due on 4999", desk.look(1, 7), 0);
        CHECK.same("due beyond", desk.look(2, 7), 0);
    }

    static void promise22RefusedLooksLeaveAllAsItWas() {
        CHECK.unchanged(desk -> {
            CHECK.lookThrows(desk, 3, 0);
            CHECK.lookThrows(desk, -1, 2);
            CHECK.lookThrows(desk, 0, 8);
            CHECK.lookThrows(desk, 0, -1);
            CHECK.lookThrows(desk, Checks.MIN, Checks.MAX);
        });
    }
}
