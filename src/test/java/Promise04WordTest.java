/** Promise 4: A WORD comes behind the PAGE that is told: how many; NONE: no such WORD, 12 are there. */
public final class Promise04WordTest {
    private static final Checks CHECK = new Checks();

    public static void main(String[] args) throws IllegalAccessException {
        CHECK.runAll(Promise04WordTest.class);
    }

    static void promise04AnswersHowManyAreTold() {
        Desk desk = new Desk();
        CHECK.same("word(5)", desk.word(5), 1);
        CHECK.same("word(5) again", desk.word(5), 2);
        CHECK.same("word(4)", desk.word(4), 3);
        CHECK.same("count(10)", desk.count(10), 3);
    }

    /** "WORDS (1 to 99)": the least and the most. */
    static void promise04TakesWordsOneToNinetyNine() {
        Desk desk = new Desk();
        CHECK.same("word(1)", desk.word(1), 1);
        CHECK.same("word(99)", desk.word(99), 2);
        desk.paper(0, 0);
        CHECK.shows(desk, 0, 1, 99);
    }

    /** "no such WORD": below 1. */
    static void promise04RefusesWordsBelowOne() {
        Desk desk = new Desk();
        CHECK.none("word", desk::word, 0, -1, -99, Checks.MIN);
        CHECK.same("count(10)", desk.count(10), 0);
    }

    /** "no such WORD": above 99. */
    static void promise04RefusesWordsAboveNinetyNine() {
        Desk desk = new Desk();
        CHECK.none("word", desk::word, 100, 101, 256 + 5, Checks.MAX);
        CHECK.same("count(10)", desk.count(10), 0);
    }

    /** "PAGES of 1 to 12 WORDS": the 12th. */
    static void promise04TakesTheTwelfthWord() {
        Desk desk = new Desk();
        for (int i = 1; i <= 12; i++) {
            CHECK.same("word(" + 8 * i + ")", desk.word(8 * i), i);
        }
        CHECK.same("paper(0, 0)", desk.paper(0, 0), 0);
        CHECK.shows(desk, 0, 8, 16, 24, 32, 40, 48, 56, 64, 72, 80, 88, 96);
    }

    /** "12 are there". */
    static void promise04RefusesTheThirteenthWord() {
        Desk desk = new Desk();
        desk.tell(1, 2, 3, 4, 5, 6, 7, 8, 9, 10, 11, 12);
        CHECK.none("word", desk::word, 13, 12, 1, 99, 0, 100);
        CHECK.same("count(10)", desk.count(10), 12);
        desk.paper(0, 0);
        CHECK.shows(desk, 0, 1, 2, 3, 4, 5, 6, 7, 8, 9, 10, 11, 12);
        CHECK.same("read(0, 2)", desk.read(0, 2), 12);
    }

    /** A refused word takes no place among those that are told. */
    static void promise04RefusedWordStandsNowhere() {
        Desk desk = new Desk();
        desk.tell(0, 3, 100, 4, -1);
        CHECK.same("count(10)", desk.count(10), 2);
        desk.paper(0, 0);
        CHECK.shows(desk, 0, 3, 4);
        CHECK.same("read(0, 2)", desk.read(0, 2), 2);
    }

    static void promise04BeginsAgainBehindPaperPageAndAsk() {
        Desk desk = new Desk();
        desk.paperOf(0, 0, 1, 2);
        CHECK.same("behind paper", desk.word(3), 1);
        desk.page(0);
        CHECK.same("behind page", desk.word(4), 1);
        desk.ask(0, 0, 0);
        CHECK.same("behind ask", desk.word(5), 1);
    }

    static void promise04RefusedWordsLeaveAllAsItWas() {
        CHECK.unchanged(desk -> CHECK.none("word", desk::word, 0, -1, 100, Checks.MIN, Checks.MAX));
    }
}
