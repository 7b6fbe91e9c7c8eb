/** Promise 9: A TEXT is judged (yes) or not: true; false: none such. */
public final class Promise09JudgeTest {
    private static final Checks CHECK = new Checks();

    public static void main(String[] args) throws IllegalAccessException {
        CHECK.runAll(Promise09JudgeTest.class);
    }

    static void promise09JudgesTheFirstAndTheLastText() {
        Desk desk = Desk.withPapers(3);
        CHECK.yes("judge(0, true)", desk.judge(0, true));
        CHECK.yes("judge(2, true)", desk.judge(2, true));
        CHECK.same("count(4)", desk.count(4), 2);
    }

    /** "false: none such". */
    static void promise09RefusesTextsThatAreNotThere() {
        CHECK.no("without texts", new Desk().judge(0, true));
        Desk desk = Desk.withPapers(3);
        CHECK.never("judge", text -> desk.judge(text, true), 3, 4, 120, Checks.MAX, -1, Checks.MIN);
        CHECK.same("count(4)", desk.count(4), 0);
        desk.judgeUpTo(3);
        CHECK.never("judge no more", text -> desk.judge(text, false), 3, 4, 120, Checks.MAX, -1, Checks.MIN);
        CHECK.same("count(4)", desk.count(4), 3);
    }

    /** Texts have numbers of their own: two pages may have one. */
    static void promise09RefusesAPagesNumberThatIsNoTexts() {
        Desk desk = Desk.withText(1, 2);
        desk.pageOf(0, 1, 2);
        CHECK.no("judge(1, true)", desk.judge(1, true));
        CHECK.yes("judge(0, true)", desk.judge(0, true));
        CHECK.same("count(4)", desk.count(4), 1);
    }

    static void promise09JudgesThe120thText() {
        Desk desk = Desk.withPages(120);
        CHECK.no("judge(120, true)", desk.judge(120, true));
        CHECK.yes("judge(119, true)", desk.judge(119, true));
        CHECK.same("count(4)", desk.count(4), 1);
    }

    /** It is true also where it was so. */
    static void promise09MayBeSaidTwice() {
        Desk desk = Desk.withPapers(1);
        CHECK.yes("not", desk.judge(0, false));
        CHECK.same("count(4)", desk.count(4), 0);
        CHECK.yes("yes", desk.judge(0, true));
        CHECK.yes("yes again", desk.judge(0, true));
        CHECK.same("count(4)", desk.count(4), 1);
        CHECK.yes("not", desk.judge(0, false));
        CHECK.yes("not again", desk.judge(0, false));
        CHECK.same("count(4)", desk.count(4), 0);
    }

    /** "each text judged once wherever it stands". */
    static void promise09HoldsForPagesThatComeLater() {
        Desk desk = Desk.withText(1);
        desk.judge(0, true);
        desk.paperOf(0, 0, 1);
        desk.ask(0, 0, 0);
        desk.third(0, 0, true);
        CHECK.same("answer(0, 9)", desk.answer(0, 9), 1);
        CHECK.gave(desk, 0, 1);
    }

    static void promise09RefusedTextsLeaveAllAsItWas() {
        CHECK.unchanged(desk -> {
            CHECK.never("judge", text -> desk.judge(text, true), 2, 3, -1, Checks.MIN, Checks.MAX);
            CHECK.never("judge", text -> desk.judge(text, false), 2, 3, -1, Checks.MIN, Checks.MAX);
        });
    }
}
