/** Promise 20: A PART of the answer, n PAGES at most (1 .. 50): how many were given; NONE: no such ASK, n. */
public final class Promise20AnswerTest {
    private static final Checks CHECK = new Checks();

    public static void main(String[] args) throws IllegalAccessException {
        CHECK.runAll(Promise20AnswerTest.class);
    }

    /** A desk with one paper, whose pages have a judged text each, and an ask that it fits. */
    private static Desk ready(int pages) {
        Desk desk = Desk.withPages(pages);
        desk.judgeUpTo(pages);
        desk.ask(0, 0, 0);
        return desk;
    }

    /** "no such ASK". */
    static void promise20RefusesAsksThatAreNotThere() {
        CHECK.same("without asks", new Desk().answer(0, 1), -1);
        Desk desk = ready(3);
        CHECK.none("ask", ask -> desk.answer(ask, 1), 1, 2, 20, Checks.MAX, -1, Checks.MIN);
        CHECK.same("count(6)", desk.count(6), 0);
    }

    static void promise20TakesTheTwentiethAsk() {
        Desk desk = ready(3);
        for (int i = 1; i < 20; i++) {
            desk.ask(0, 0, 0);
        }
        CHECK.same("ask 20", desk.answer(20, 1), -1);
        CHECK.same("ask 19", desk.answer(19, 50), 3);
    }

    /** "n PAGES at most (1 .. 50)": the least. */
    static void promise20TakesOnePage() {
        Desk desk = ready(3);
        CHECK.same("answer(0, 1)", desk.answer(0, 1), 1);
        CHECK.gave(desk, 0, 0);
        CHECK.same("answer(0, 1)", desk.answer(0, 1), 1);
        CHECK.gave(desk, 1, 1);
    }

    /** "NONE: .. n": below 1. */
    static void promise20RefusesLessThanOnePage() {
        Desk desk = ready(3);
        CHECK.none("n", n -> desk.answer(0, n), 0, -1, -50, Checks.MIN);
        CHECK.same("count(6)", desk.count(6), 0);
    }

    /** "n PAGES at most (1 .. 50)": the most. */
    static void promise20TakesFiftyPages() {
        Desk desk = ready(52);
        CHECK.same("answer(0, 50)", desk.answer(0, 50), 50);
        CHECK.same("count(6)", desk.count(6), 50);
        CHECK.same("given(49, 1)", desk.given(49, 1), 49);
        CHECK.same("the rest", desk.answer(0, 50), 2);
    }

    /** "NONE: .. n": above 50. */
    static void promise20RefusesFiftyOnePages() {
        Desk desk = ready(52);
        CHECK.none("n", n -> desk.answer(0, n), 51, 52, 300, Checks.MAX);
        CHECK.same("count(6)", desk.count(6), 0);
        CHECK.same("answer(0, 49)", desk.answer(0, 49), 49);
    }

    /** "n .. at most": just as many as there are, one more, one less. */
    static void promise20GivesUpToSoMany() {
        CHECK.same("3 of 3", ready(3).answer(0, 3), 3);
        CHECK.same("4 of 3", ready(3).answer(0, 4), 3);
        CHECK.same("2 of 3", ready(3).answer(0, 2), 2);
    }

    /** No page that fits, no page that is left, no page at all: none is given. */
    static void promise20GivesNoneWhereNoneIsLeft() {
        Desk desk = ready(3);
        desk.answer(0, 50);
        CHECK.same("again", desk.answer(0, 50), 0);
        CHECK.same("count(6)", desk.count(6), 3);
        desk.askFor(0, 0, 0, 77);
        CHECK.same("none fits", desk.answer(1, 50), 0);
        Desk none = new Desk();
        none.ask(0, 0, 0);
        CHECK.same("no page", none.answer(0, 1), 0);
        CHECK.same("count(6)", none.count(6), 0);
    }

    /** "PAGES of PAPERS that FIT": all pages of those, none of the others. */
    static void promise20GivesPagesOfPapersThatFit() {
        Desk desk = new Desk();
        desk.folder(0);
        desk.days(5);
        desk.paperOf(1, 3, 1);
        desk.paperOf(1, 3, 2);
        desk.paperOf(0, 3, 1, 2);
        desk.paperOf(1, 4, 1, 3);
        desk.pageOf(0, 4);
        desk.judgeUpTo(5);
        desk.askFor(1, 3, 3, 1);
        CHECK.same("answer(0, 9)", desk.answer(0, 9), 2);
        CHECK.gave(desk, 0, 0, 4);
    }

    /** What does not fit any more is given no more. */
    static void promise20GivesWhatFitsNow() {
        Desk desk = Desk.withPapers(3);
        desk.judgeUpTo(3);
        desk.ask(0, 0, 0);
        desk.answer(0, 1);
        desk.narrow(0, 3);
        CHECK.same("answer(0, 9)", desk.answer(0, 9), 1);
        CHECK.gave(desk, 1, 2);
    }

    /** "each whose TEXT was not given for this ASK (on any PAGE)". */
    static void promise20GivesATextOnce() {
        Desk desk = Desk.withText(1);
        desk.pageOf(0, 1);
        desk.paperOf(0, 0, 1);
        desk.pageOf(1, 2);
        desk.judgeUpTo(2);
        desk.ask(0, 0, 0);
        CHECK.same("in one part", desk.answer(0, 9), 2);
        CHECK.gave(desk, 0, 0, 3);
        desk.paperOf(0, 0, 2);
        desk.pageOf(2, 1);
        CHECK.same("in another part", desk.answer(0, 9), 0);
        desk.ask(0, 0, 0);
        CHECK.same("for another ask", desk.answer(1, 9), 2);
    }

    /** A text that was given is not given again, whatever became of it. */
    static void promise20GivesNoTextAgainWhenItChanged() {
        Desk desk = ready(1);
        desk.answer(0, 1);
        desk.judge(0, false);
        desk.judge(0, true);
        desk.rulesOf("ground 1 when 1;");
        desk.black(0, 0, 0, 1);
        CHECK.same("answer(0, 1)", desk.answer(0, 1), 0);
    }

    /** "left for later if its TEXT is not judged". */
    static void promise20LeavesPagesThatAreNotJudged() {
        Desk desk = Desk.withPages(3);
        desk.ask(0, 0, 0);
        CHECK.same("none is judged", desk.answer(0, 9), 0);
        desk.judge(1, true);
        CHECK.same("one is", desk.answer(0, 9), 1);
        CHECK.gave(desk, 0, 1);
        desk.judge(0, true);
        desk.judge(2, true);
        desk.judge(2, false);
        CHECK.same("one is again", desk.answer(0, 9), 1);
        CHECK.gave(desk, 1, 0);
        desk.judge(2, true);
        CHECK.same("at last", desk.answer(0, 9), 1);
    }

    /** "or a THIRD of its PAPER was not heard": all of them must be. */
    static void promise20LeavesPagesWhoseThirdsWereNotHeard() {
        Desk desk = ready(2);
        for (int person = 0; person < 8; person++) {
            desk.third(0, person, true);
        }
        for (int person = 0; person < 8; person++) {
            CHECK.same("before person " + person, desk.answer(0, 9), 0);
            desk.heard(person);
        }
        CHECK.same("all were heard", desk.answer(0, 9), 2);
    }

    /** One who is no third any more need not be heard. */
    static void promise20AsksForThirdsAsTheyAreNow() {
        Desk desk = ready(2);
        desk.third(0, 7, true);
        desk.heard(0);
        CHECK.same("7 was not heard", desk.answer(0, 1), 0);
        desk.third(0, 7, false);
        CHECK.same("7 is none", desk.answer(0, 1), 1);
        desk.third(0, 0, true);
        CHECK.same("0 was heard", desk.answer(0, 1), 1);
    }

    /** A text left on one paper is given on another that has no such hindrance. */
    static void promise20GivesALeftTextOnAnotherPage() {
        Desk desk = Desk.withText(1);
        desk.paperOf(0, 0, 1);
        desk.judge(0, true);
        desk.third(0, 3, true);
        desk.ask(0, 0, 0);
        CHECK.same("answer(0, 9)", desk.answer(0, 9), 1);
        CHECK.gave(desk, 0, 1);
        desk.heard(3);
        CHECK.same("not on the first one then", desk.answer(0, 9), 0);
    }

    /** Pages that are left do not count among the n. */
    static void promise20CountsOnlyPagesThatAreGiven() {
        Desk desk = Desk.withPages(5);
        desk.judge(1, true);
        desk.judge(3, true);
        desk.judge(4, true);
        desk.ask(0, 0, 0);
        CHECK.same("answer(0, 2)", desk.answer(0, 2), 2);
        CHECK.gave(desk, 0, 1, 3);
    }

    /** "300 at most in all": the 300th. */
    static void promise20GivesThe300thPage() {
        Desk desk = fullTo(299);
        CHECK.same("count(6)", desk.count(6), 299);
        CHECK.same("answer(6, 1)", desk.answer(6, 1), 1);
        CHECK.same("count(6)", desk.count(6), 300);
        CHECK.same("given(299, 0)", desk.given(299, 0), 6);
    }

    /** "300 at most in all": one part is cut there. */
    static void promise20GivesUpTo300OfAPart() {
        Desk desk = fullTo(299);
        CHECK.same("answer(6, 50)", desk.answer(6, 50), 1);
        CHECK.same("count(6)", desk.count(6), 300);
        CHECK.same("look(6, 1)", desk.look(6, 1), 1);
        CHECK.same("look(6, 2)", desk.look(6, 2), 49);
    }

    static void promise20GivesNoneBeyond300() {
        Desk desk = fullTo(300);
        CHECK.same("another ask", desk.answer(7, 50), 0);
        CHECK.same("one page", desk.answer(7, 1), 0);
        CHECK.same("n 0", desk.answer(7, 0), -1);
        CHECK.same("n 51", desk.answer(7, 51), -1);
        CHECK.same("no such ask", desk.answer(8, 1), -1);
        CHECK.same("count(6)", desk.count(6), 300);
        CHECK.same("given(300, 0)", desk.given(300, 0), -1);
        CHECK.same("look(7, 1)", desk.look(7, 1), 0);
        CHECK.same("look(7, 2)", desk.look(7, 2), 50);
    }

    /** A desk with 50 texts and eight asks, on which so many pages (251 to 300) were given. */
    private static Desk fullTo(int given) {
        Desk desk = ready(50);
        for (int ask = 1; ask < 8; ask++) {
            desk.ask(0, 0, ask);
        }
        for (int ask = 0; ask < 5; ask++) {
            CHECK.same("answer(" + ask + ", 50)", desk.answer(ask, 50), 50);
        }
        CHECK.same("answer(5, ..)", desk.answer(5, given - 250), given - 250);
        return desk;
    }

    /** The document refuses no stopped ask. */
    static void promise20AnswersAStoppedAsk() {
        Desk desk = ready(2);
        desk.stop(0, true);
        CHECK.same("answer(0, 9)", desk.answer(0, 9), 2);
    }

    static void promise20RefusedAnswersLeaveAllAsItWas() {
        CHECK.unchanged(desk -> {
            CHECK.none("ask", ask -> desk.answer(ask, 5), 3, -1, Checks.MIN, Checks.MAX);
            CHECK.none("n", n -> desk.answer(1, n), 0, 51, -1, Checks.MIN, Checks.MAX);
        });
    }
}
