/**
 * Promise 20, the order: that of numbers; first come those whose TEXT was given for what the ASK REPEATS, then the
 * others.
 */
public final class Promise20OrderTest {
    private static final Checks CHECK = new Checks();

    public static void main(String[] args) throws IllegalAccessException {
        CHECK.runAll(Promise20OrderTest.class);
    }

    /** A desk with one paper for each page, and texts 2 and 4 of five given for ask 0; then all are judged. */
    private static Desk twoGiven() {
        Desk desk = Desk.withPapers(5);
        desk.judge(2, true);
        desk.judge(4, true);
        desk.ask(0, 0, 0);
        desk.answer(0, 9);
        desk.judgeUpTo(5);
        return desk;
    }

    /** "in the order of numbers": those of the pages, also where papers lie between. */
    static void promise20GivesPagesInTheOrderOfTheirNumbers() {
        Desk desk = Desk.withPapers(2);
        desk.pageOf(0, 3);
        desk.pageOf(1, 4);
        desk.pageOf(0, 5);
        desk.judgeUpTo(5);
        desk.ask(0, 0, 0);
        desk.answer(0, 4);
        CHECK.gave(desk, 0, 0, 1, 2, 3);
        desk.answer(0, 4);
        CHECK.gave(desk, 4, 4);
    }

    /** "First come those whose TEXT was given for what it REPEATS, then the others", each in the order of numbers. */
    static void promise20GivesFirstWhatTheRepeatedAskGave() {
        Desk desk = twoGiven();
        desk.ask(0, 0, 0);
        CHECK.same("answer(1, 50)", desk.answer(1, 50), 5);
        CHECK.gave(desk, 2, 2, 4, 0, 1, 3);
    }

    /** "up to so many" counts both together. */
    static void promise20CountsBothTogether() {
        int[][] due = {{2}, {2, 4}, {2, 4, 0}, {2, 4, 0, 1}, {2, 4, 0, 1, 3}};
        for (int n = 1; n <= 5; n++) {
            Desk desk = twoGiven();
            desk.ask(0, 0, 0);
            CHECK.same("answer(1, " + n + ")", desk.answer(1, n), n);
            CHECK.gave(desk, 2, due[n - 1]);
        }
    }

    /** What was given first in one part is not given again in the same or the next one. */
    static void promise20GoesOnInTheSameOrder() {
        Desk desk = twoGiven();
        desk.ask(0, 0, 0);
        int[] due = {2, 4, 0, 1, 3};
        for (int i = 0; i < due.length; i++) {
            CHECK.same("answer(1, 1)", desk.answer(1, 1), 1);
            CHECK.gave(desk, 2 + i, due[i]);
        }
        CHECK.same("answer(1, 1)", desk.answer(1, 1), 0);
    }

    /** "whose TEXT was given": on whichever page, so another page of that text comes first, too. */
    static void promise20GoesByTheTextsThatWereGiven() {
        Desk desk = Desk.withText(1);
        desk.paperOf(0, 0, 2);
        desk.paperOf(0, 0, 2);
        desk.judgeUpTo(2);
        desk.judge(0, false);
        desk.ask(0, 0, 0);
        desk.answer(0, 9);
        CHECK.gave(desk, 0, 1);
        desk.judge(0, true);
        desk.third(1, 0, true);
        desk.ask(0, 0, 0);
        desk.answer(1, 9);
        CHECK.gave(desk, 1, 2, 0);
    }

    /** Where nothing was given for it, all come in the order of numbers. */
    static void promise20GivesAllInOrderWhereNothingWasGiven() {
        Desk desk = Desk.withPapers(3);
        desk.judgeUpTo(3);
        desk.ask(0, 0, 0);
        desk.ask(0, 0, 0);
        desk.answer(1, 9);
        CHECK.gave(desk, 0, 0, 1, 2);
    }

    /** What was given for an ask that it does not repeat counts for nothing. */
    static void promise20LooksAtNoOtherAsk() {
        Desk desk = twoGiven();
        desk.ask(0, 0, 1);
        desk.answer(1, 9);
        CHECK.gave(desk, 2, 0, 1, 2, 3, 4);
    }

    /** It repeats the least such ask, and what was given for a later such one counts for nothing. */
    static void promise20LooksAtTheLeastSuchAskAlone() {
        Desk desk = Desk.withPapers(3);
        desk.ask(0, 0, 0);
        desk.ask(0, 0, 0);
        desk.ask(0, 0, 0);
        desk.judge(2, true);
        desk.answer(1, 9);
        desk.judgeUpTo(3);
        desk.answer(2, 9);
        CHECK.gave(desk, 1, 0, 1, 2);
    }

    /** What is given for the repeated ask behind the repeating one's coming counts, too: it was given. */
    static void promise20LooksAtWhatWasGivenByNow() {
        Desk desk = Desk.withPapers(3);
        desk.ask(0, 0, 0);
        desk.ask(0, 0, 0);
        desk.judge(2, true);
        desk.answer(0, 9);
        desk.judgeUpTo(3);
        desk.answer(1, 9);
        CHECK.gave(desk, 1, 2, 0, 1);
    }

    /** Those that come first are left for later, too, if they are not judged or not heard. */
    static void promise20LeavesThemForLaterToo() {
        Desk desk = twoGiven();
        desk.ask(0, 0, 0);
        desk.judge(2, false);
        desk.third(4, 1, true);
        CHECK.same("answer(1, 2)", desk.answer(1, 2), 2);
        CHECK.gave(desk, 2, 0, 1);
        desk.judge(2, true);
        desk.heard(1);
        CHECK.same("answer(1, 9)", desk.answer(1, 9), 3);
        CHECK.gave(desk, 4, 2, 4, 3);
    }

    /** Those that come first must fit, too. */
    static void promise20GivesThemOnlyWhereTheyFit() {
        Desk desk = twoGiven();
        desk.ask(0, 0, 0);
        desk.narrow(1, 5);
        desk.answer(1, 9);
        CHECK.gave(desk, 2, 4);
    }

    /** The 300 are counted through both. */
    static void promise20Gives300ThroughBoth() {
        Desk desk = Desk.withPages(50);
        desk.judgeUpTo(50);
        desk.judge(0, false);
        int[] parts = {1, 49, 49, 49, 49, 49, 49};
        for (int ask = 0; ask < parts.length; ask++) {
            desk.ask(0, 0, ask);
            desk.answer(ask, parts[ask]);
        }
        desk.judge(0, true);
        desk.answer(1, 3);
        desk.answer(2, 2);
        CHECK.same("count(6)", desk.count(6), 297);
        desk.ask(0, 0, 0);
        CHECK.same("three of four", desk.answer(7, 4), 3);
        CHECK.gave(desk, 297, 1, 0, 2);
        CHECK.same("none", desk.answer(7, 4), 0);
    }
}
