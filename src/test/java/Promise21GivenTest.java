/**
 * Promise 21: Of the i-th PAGE given in all, what 0: the ASK, 1: the PAGE, 2: the DAY, 3: how many WORDS were BLACK,
 * 4 .. 15: its WORDS (0: BLACK); NONE: none such.
 */
public final class Promise21GivenTest {
    private static final Checks CHECK = new Checks();

    public static void main(String[] args) throws IllegalAccessException {
        CHECK.runAll(Promise21GivenTest.class);
    }

    /** On day 3 pages 1 and 0, of three and of twelve words, are given for ask 1. */
    private static Desk desk() {
        Desk desk = Desk.withText(1, 2, 3, 4, 5, 6, 7, 8, 9, 10, 11, 12);
        desk.pageOf(0, 21, 22, 23);
        desk.rulesOf("ground 1 when age < 4;");
        desk.black(1, 1, 2, 1);
        desk.judge(1, true);
        desk.ask(0, 0, 0);
        desk.ask(0, 0, 1);
        desk.days(3);
        desk.answer(1, 1);
        desk.judge(0, true);
        desk.answer(1, 1);
        return desk;
    }

    private static void tells(Desk desk, int i, int... due) {
        for (int what = 0; what < due.length; what++) {
            CHECK.same("given(" + i + ", " + what + ")", desk.given(i, what), due[what]);
        }
    }

    static void promise21TellsEachThing() {
        Desk desk = desk();
        tells(desk, 0, 1, 1, 3, 2, 21, 0, 0);
        tells(desk, 1, 1, 0, 3, 0, 1, 2, 3, 4, 5, 6, 7, 8, 9, 10, 11, 12);
    }

    /** "NONE: none such": a page that was not given. */
    static void promise21RefusesPagesThatWereNotGiven() {
        Desk none = new Desk();
        CHECK.none("given nothing", i -> none.given(i, 0), 0, 1, -1);
        Desk desk = desk();
        for (int what = 0; what <= 4; what++) {
            int asked = what;
            CHECK.none("given", i -> desk.given(i, asked), 2, 3, 300, Checks.MAX, -1, Checks.MIN);
        }
    }

    static void promise21TellsUpToThe300thPage() {
        Desk desk = Desk.withPages(50);
        desk.judgeUpTo(50);
        for (int ask = 0; ask < 6; ask++) {
            desk.ask(0, 0, ask);
            desk.answer(ask, 50);
        }
        tells(desk, 299, 5, 49, 0, 0, 50, -1);
        CHECK.same("given(300, 0)", desk.given(300, 0), -1);
    }

    /** "4 .. 15": the first and the last word of twelve. */
    static void promise21TellsTheFirstAndTheTwelfthWord() {
        Desk desk = desk();
        CHECK.same("given(1, 4)", desk.given(1, 4), 1);
        CHECK.same("given(1, 15)", desk.given(1, 15), 12);
    }

    /** "NONE: none such": what is told of no page. */
    static void promise21RefusesOtherThings() {
        Desk desk = desk();
        CHECK.none("given of what", what -> desk.given(1, what), 16, 17, Checks.MAX, -1, -2, Checks.MIN, Checks.MIN + 4);
    }

    /** "NONE: none such": a word behind the page's last. */
    static void promise21RefusesWordsBehindThePagesLast() {
        Desk desk = desk();
        CHECK.same("the last", desk.given(0, 6), 0);
        CHECK.none("given of what", what -> desk.given(0, what), 7, 8, 15, 16);
        Desk one = Desk.withText(9);
        one.judge(0, true);
        one.ask(0, 0, 0);
        one.answer(0, 1);
        CHECK.same("one word", one.given(0, 4), 9);
        CHECK.same("behind one word", one.given(0, 5), -1);
    }

    /** "its WORDS as they are then": what happens behind changes nothing. */
    static void promise21KeepsThePageAsItWas() {
        Desk desk = desk();
        desk.days(9);
        desk.clear(1, 0);
        desk.black(0, 0, 11, 2);
        desk.rulesOf("ground 2 when 1;");
        CHECK.same("black now", desk.read(0, 3), 12);
        CHECK.same("not black now", desk.read(1, 3), 0);
        tells(desk, 0, 1, 1, 3, 2, 21, 0, 0);
        tells(desk, 1, 1, 0, 3, 0, 1, 2);
    }

    /** "how many WORDS were BLACK": all twelve. */
    static void promise21CountsTwelveBlackWords() {
        Desk desk = Desk.withText(1, 2, 3, 4, 5, 6, 7, 8, 9, 10, 11, 12);
        desk.rulesOf("ground 9 when 1;");
        desk.black(0, 0, 7, 9);
        desk.black(0, 5, 11, 9);
        desk.judge(0, true);
        desk.ask(0, 0, 0);
        desk.answer(0, 1);
        tells(desk, 0, 0, 0, 0, 12, 0, 0, 0, 0, 0, 0, 0, 0, 0, 0, 0, 0, -1);
    }

    /** The same text may be given black on one paper and not on another, for another ask. */
    static void promise21TellsBlackWordsByThePagesPaper() {
        Desk desk = new Desk();
        desk.folder(0);
        desk.paperOf(0, 0, 8);
        desk.paperOf(1, 0, 8);
        desk.rulesOf("ground 0 when folder;");
        desk.black(0, 0, 0, 0);
        desk.judge(0, true);
        desk.ask(0, 0, 0);
        desk.ask(1, 0, 0);
        desk.answer(1, 1);
        desk.answer(0, 1);
        tells(desk, 0, 1, 1, 0, 1, 0, -1);
        tells(desk, 1, 0, 0, 0, 0, 8, -1);
    }

    /** "2: the DAY": the first and the last. */
    static void promise21TellsTheDay() {
        Desk desk = Desk.withPapers(2);
        desk.judgeUpTo(2);
        desk.ask(0, 0, 0);
        desk.answer(0, 1);
        desk.goTo(4999);
        desk.answer(0, 1);
        CHECK.same("given(0, 2)", desk.given(0, 2), 0);
        CHECK.same("given(1, 2)", desk.given(1, 2), 4999);
    }

    static void promise21AsksChangeNothing() {
        CHECK.unchanged(desk -> {
            CHECK.none("i", i -> desk.given(i, 0), 1, -1, Checks.MIN, Checks.MAX);
            CHECK.none("what", what -> desk.given(0, what), 7, 16, -1, Checks.MIN, Checks.MAX);
        });
    }
}
