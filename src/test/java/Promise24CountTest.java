/**
 * Promise 24: What 0: FOLDERS, 1: PAPERS, 2: PAGES, 3: TEXTS, 4: judged ones, 5: ASKS, 6: given in all, 7: NOW, 8: lines
 * of the RULES, 9: signs on the TAPE, 10: WORDS told. NONE for another what.
 */
public final class Promise24CountTest {
    private static final Checks CHECK = new Checks();

    public static void main(String[] args) throws IllegalAccessException {
        CHECK.runAll(Promise24CountTest.class);
    }

    private static void counts(Desk desk, int... due) {
        for (int what = 0; what < due.length; what++) {
            CHECK.same("count(" + what + ")", desk.count(what), due[what]);
        }
    }

    static void promise24CountsOfANewObject() {
        counts(new Desk(), 1, 0, 0, 0, 0, 0, 0, 0, 0, 0, 0, -1);
    }

    /** Each is another number here, so none can stand for another. */
    static void promise24CountsEachThing() {
        Desk desk = new Desk();
        desk.days(9);
        for (int i = 0; i < 7; i++) {
            desk.folder(0);
        }
        desk.paperOf(1, 0, 1);
        desk.paperOf(0, 3, 2);
        desk.pageOf(0, 1);
        desk.pageOf(0, 3);
        desk.pageOf(1, 4);
        desk.pageOf(1, 5);
        desk.judgeUpTo(5);
        desk.judge(1, false);
        desk.judge(4, false);
        for (int i = 0; i < 10; i++) {
            desk.ask(0, 0, 9);
        }
        desk.answer(0, 1);
        desk.rulesOf("ground 1 when 1;".repeat(12));
        desk.feedText("ground 2 when");
        desk.tell(1, 1, 1, 1);
        counts(desk, 8, 2, 6, 5, 3, 10, 1, 9, 12, 13, 4, -1);
    }

    /** "NONE for another what". */
    static void promise24RefusesOtherThings() {
        Desk desk = Desk.busy();
        CHECK.none("count", desk::count, 11, 12, 100, Checks.MAX, -1, -2, Checks.MIN);
        CHECK.same("the first that is taken", desk.count(0), 3);
        CHECK.same("the last that is taken", desk.count(10), 2);
    }

    /** At most 20 folders, 40 papers, 20 asks, day 4999, 16 lines, 600 signs and 12 words told. */
    static void promise24CountsUpToTheMost() {
        Desk desk = Desk.withPapers(40);
        desk.nestFolders();
        for (int i = 0; i < 20; i++) {
            desk.ask(0, 0, i);
        }
        desk.goTo(4999);
        desk.rulesOf("ground 1 when 1;".repeat(16));
        desk.feedText("x".repeat(600));
        desk.tell(1, 2, 3, 4, 5, 6, 7, 8, 9, 10, 11, 12);
        counts(desk, 20, 40, 40, 40, 0, 20, 0, 4999, 16, 600, 12, -1);
    }

    /** At most 120 pages and texts, all of them judged. */
    static void promise24CountsUpTo120() {
        Desk desk = Desk.withPages(120);
        desk.judgeUpTo(120);
        counts(desk, 1, 1, 120, 120, 120, 0, 0, 0, 0, 0, 0);
    }

    /** At most 300 given in all. */
    static void promise24CountsUpTo300() {
        Desk desk = Desk.withPages(60);
        desk.judgeUpTo(60);
        for (int ask = 0; ask < 6; ask++) {
            desk.ask(0, 0, 0);
            desk.answer(ask, 50);
            CHECK.same("count(6)", desk.count(6), 50 * ask + 50);
        }
        desk.answer(0, 50);
        CHECK.same("count(6)", desk.count(6), 300);
    }

    static void promise24AsksChangeNothing() {
        CHECK.unchanged(desk -> CHECK.none("count", desk::count, 11, -1, Checks.MIN, Checks.MAX));
    }
}
