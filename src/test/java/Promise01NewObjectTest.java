import java.util.List;

/** Promise 1: One FOLDER, no PAPER; NOW is 0. */
public final class Promise01NewObjectTest {
    private static final Checks CHECK = new Checks();

    public static void main(String[] args) throws IllegalAccessException {
        CHECK.runAll(Promise01NewObjectTest.class);
    }

    /** "One FOLDER", and "0 is there". */
    static void promise01FolderZeroIsThereAndNoOther() {
        Desk desk = new Desk();
        CHECK.same("count(0)", desk.count(0), 1);
        CHECK.none("folder", desk::folder, 1, -1);
        CHECK.same("folder(0)", desk.folder(0), 1);
    }

    /** "no PAPER", and so no PAGE and no TEXT. */
    static void promise01NoPaperIsThere() {
        Desk desk = new Desk();
        for (int what = 1; what <= 4; what++) {
            CHECK.same("count(" + what + ")", desk.count(what), 0);
        }
        CHECK.none("read of page 0", what -> desk.read(0, what), 0, 1, 2, 3, 4, 15);
        CHECK.no("third(0, 0, true)", desk.third(0, 0, true));
        CHECK.no("judge(0, true)", desk.judge(0, true));
        CHECK.same("black(0, 0, 0, 0)", desk.black(0, 0, 0, 0), -1);
        CHECK.no("clear(0, 0)", desk.clear(0, 0));
        desk.word(1);
        CHECK.same("page(0)", desk.page(0), -1);
    }

    /** "NOW is 0". */
    static void promise01NowIsZero() {
        Desk desk = new Desk();
        CHECK.same("count(7)", desk.count(7), 0);
        CHECK.same("days(0)", desk.days(0), 0);
        desk.word(1);
        CHECK.same("a paper of day 1", desk.paper(0, 1), -1);
        CHECK.same("a paper of day 0", desk.paper(0, 0), 0);
    }

    static void promise01NoAskIsThereAndNothingIsGiven() {
        Desk desk = new Desk();
        CHECK.same("count(5)", desk.count(5), 0);
        CHECK.same("count(6)", desk.count(6), 0);
        CHECK.same("narrow(0, 1)", desk.narrow(0, 1), -1);
        CHECK.no("stop(0, true)", desk.stop(0, true));
        CHECK.same("due(0)", desk.due(0), -1);
        CHECK.same("found(0)", desk.found(0), -1);
        CHECK.same("finds(0, 0)", desk.finds(0, 0), -1);
        CHECK.same("answer(0, 1)", desk.answer(0, 1), -1);
        CHECK.same("given(0, 0)", desk.given(0, 0), -1);
        CHECK.lookThrows(desk, 0, 0);
    }

    static void promise01NoLinesNoSignsNoWordsToldAreThere() {
        Desk desk = new Desk();
        CHECK.same("count(8)", desk.count(8), 0);
        CHECK.same("count(9)", desk.count(9), 0);
        CHECK.same("count(10)", desk.count(10), 0);
        CHECK.same("paper(0, 0)", desk.paper(0, 0), -1);
        CHECK.same("feed of nothing", desk.feed(0, 0, 0), 0);
        CHECK.same("rules()", desk.rules(), 0);
        CHECK.same("the first word told", desk.word(1), 1);
    }

    static void promise01NoPersonWasHeard() {
        Desk desk = new Desk();
        for (int person = 0; person < 8; person++) {
            CHECK.yes("heard(" + person + ")", desk.heard(person));
        }
    }

    static void promise01IsNotTouchedByWhatAnotherObjectHolds() {
        Desk early = new Desk();
        List<String> due = new Desk().snapshot();
        Desk.busy().snapshot();
        CHECK.yes("one made before", early.snapshot().equals(due));
        CHECK.yes("one made behind", new Desk().snapshot().equals(due));
    }
}
