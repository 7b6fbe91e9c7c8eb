/**
 * Promise 23: Of a PAGE, what 0: its PAPER, 1: its TEXT, 2: WORDS, 3: BLACK ones now, 4 .. 15: its WORDS as they are now
 * (0: BLACK); NONE: none such.
 */
public final class Promise23ReadTest {
    private static final Checks CHECK = new Checks();

    public static void main(String[] args) throws IllegalAccessException {
        CHECK.runAll(Promise23ReadTest.class);
    }

    /** Page 0 has two words, page 1 twelve on another paper, page 2 the text of page 0 again. */
    private static Desk desk() {
        Desk desk = Desk.withText(31, 32);
        desk.paperOf(0, 0, 1, 2, 3, 4, 5, 6, 7, 8, 9, 10, 11, 12);
        desk.pageOf(1, 31, 32);
        return desk;
    }

    private static void tells(Desk desk, int page, int... due) {
        for (int what = 0; what < due.length; what++) {
            CHECK.same("read(" + page + ", " + what + ")", desk.read(page, what), due[what]);
        }
    }

    static void promise23TellsEachThing() {
        Desk desk = desk();
        tells(desk, 0, 0, 0, 2, 0, 31, 32);
        tells(desk, 1, 1, 1, 12, 0, 1, 2, 3, 4, 5, 6, 7, 8, 9, 10, 11, 12);
        tells(desk, 2, 1, 0, 2, 0, 31, 32);
    }

    /** "NONE: none such": the page. */
    static void promise23RefusesPagesThatAreNotThere() {
        Desk none = new Desk();
        CHECK.none("without pages", page -> none.read(page, 0), 0, 1, -1);
        Desk desk = desk();
        for (int what = 0; what <= 4; what++) {
            int asked = what;
            CHECK.none("read", page -> desk.read(page, asked), 3, 4, 120, Checks.MAX, -1, Checks.MIN);
        }
    }

    static void promise23TakesThe120thPage() {
        Desk desk = Desk.withPages(120);
        tells(desk, 119, 0, 119, 2, 0, 21, 99, -1);
        CHECK.same("read(120, 0)", desk.read(120, 0), -1);
    }

    /** "4 .. 15": the first and the last word of twelve. */
    static void promise23TellsTheFirstAndTheTwelfthWord() {
        Desk desk = desk();
        CHECK.same("read(1, 4)", desk.read(1, 4), 1);
        CHECK.same("read(1, 15)", desk.read(1, 15), 12);
    }

    /** "NONE: none such": what is told of no page. */
    static void promise23RefusesOtherThings() {
        Desk desk = desk();
        CHECK.none("read of what", what -> desk.read(1, what), 16, 17, Checks.MAX, -1, -2, Checks.MIN, Checks.MIN + 4);
    }

    /** "NONE: none such": a word behind the page's last. */
    static void promise23RefusesWordsBehindThePagesLast() {
        Desk desk = desk();
        CHECK.same("the last", desk.read(0, 5), 32);
        CHECK.none("read of what", what -> desk.read(0, what), 6, 7, 15, 16);
        Desk one = Desk.withText(9);
        CHECK.same("one word", one.read(0, 4), 9);
        CHECK.same("behind one word", one.read(0, 5), -1);
    }

    /** "3: BLACK ones now": from none to all twelve, each counted once however many spans are over it. */
    static void promise23CountsBlackWordsFromNoneToTwelve() {
        Desk desk = desk();
        desk.rulesOf("ground 9 when 1;");
        desk.black(1, 0, 7, 9);
        CHECK.same("eight", desk.read(1, 3), 8);
        desk.black(1, 5, 11, 9);
        CHECK.same("twelve", desk.read(1, 3), 12);
        tells(desk, 1, 1, 1, 12, 12, 0, 0, 0, 0, 0, 0, 0, 0, 0, 0, 0, 0, -1);
        desk.clear(1, 1);
        CHECK.same("eight", desk.read(1, 3), 8);
        desk.clear(1, 0);
        CHECK.same("none", desk.read(1, 3), 0);
    }

    /** Black words count among the words. */
    static void promise23CountsBlackWordsAsWords() {
        Desk desk = desk();
        desk.rulesOf("ground 9 when 1;");
        desk.black(0, 0, 1, 9);
        tells(desk, 0, 0, 0, 2, 2, 0, 0, -1);
    }

    /** "as they are now": with the day, and by the page's paper. */
    static void promise23TellsWordsAsTheyAreNow() {
        Desk desk = desk();
        desk.black(0, 0, 0, 1);
        desk.rulesOf("ground 1 when age = 1 and pages = 2;");
        tells(desk, 2, 1, 0, 2, 0, 31, 32);
        desk.days(1);
        tells(desk, 0, 0, 0, 2, 0, 31, 32);
        tells(desk, 2, 1, 0, 2, 1, 0, 32);
        desk.days(1);
        tells(desk, 2, 1, 0, 2, 0, 31, 32);
    }

    static void promise23AsksChangeNothing() {
        CHECK.unchanged(desk -> {
            CHECK.none("page", page -> desk.read(page, 0), 3, -1, Checks.MIN, Checks.MAX);
            CHECK.none("what", what -> desk.read(0, what), 7, 16, -1, Checks.MIN, Checks.MAX);
        });
    }
}
