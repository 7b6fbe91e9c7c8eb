/**
 * Promise 6: The PAGE that is told comes behind a PAPER's: its number; NONE: no WORDS are, no such PAPER, 120 are there.
 */
public final class Promise06PageTest {
    private static final Checks CHECK = new Checks();

    public static void main(String[] args) throws IllegalAccessException {
        CHECK.runAll(Promise06PageTest.class);
    }

    /** "120 PAGES in all, numbered as they come": through all papers. */
    static void promise06NumbersPagesAsTheyCome() {
        Desk desk = Desk.withPapers(2);
        CHECK.same("of paper 1", desk.pageOf(1, 5), 2);
        CHECK.same("of paper 0", desk.pageOf(0, 6), 3);
        int[] papers = {0, 1, 1, 0};
        for (int page = 0; page < papers.length; page++) {
            CHECK.same("read(" + page + ", 0)", desk.read(page, 0), papers[page]);
        }
        CHECK.same("count(1)", desk.count(1), 2);
    }

    static void promise06TakesWhatIsTold() {
        Desk desk = Desk.withText(1);
        desk.pageOf(0, 2, 3);
        CHECK.same("count(10)", desk.count(10), 0);
        CHECK.shows(desk, 1, 2, 3);
    }

    /** "no WORDS are". */
    static void promise06RefusesAPageWithoutWords() {
        Desk desk = Desk.withText(1);
        CHECK.same("page(0)", desk.page(0), -1);
        CHECK.same("count(2)", desk.count(2), 1);
    }

    /** "PAGES of 1 to 12 WORDS". */
    static void promise06TakesPagesOfOneAndOfTwelveWords() {
        Desk desk = Desk.withText(1);
        CHECK.same("one word", desk.pageOf(0, 99), 1);
        CHECK.same("twelve words", desk.pageOf(0, 1, 2, 3, 4, 5, 6, 7, 8, 9, 10, 11, 12), 2);
        CHECK.same("read(1, 2)", desk.read(1, 2), 1);
        CHECK.same("read(2, 2)", desk.read(2, 2), 12);
    }

    static void promise06TakesTheLastPaper() {
        Desk desk = Desk.withPapers(40);
        CHECK.same("page(39)", desk.pageOf(39, 1), 40);
        CHECK.same("read(40, 0)", desk.read(40, 0), 39);
    }

    /** "no such PAPER". */
    static void promise06RefusesPapersThatAreNotThere() {
        Desk none = new Desk();
        none.word(1);
        CHECK.none("page", none::page, 0, -1, 1);
        Desk desk = Desk.withPapers(2);
        desk.pageOf(0, 8);
        desk.tell(5, 6);
        CHECK.none("page", desk::page, 2, 3, 40, -1, Checks.MIN, Checks.MAX);
        CHECK.same("count(2)", desk.count(2), 3);
        CHECK.same("count(10)", desk.count(10), 2);
        CHECK.same("page(1)", desk.page(1), 3);
        CHECK.shows(desk, 3, 5, 6);
    }

    /** "120 PAGES in all": the 120th. */
    static void promise06TakesThe120thPage() {
        Desk desk = Desk.withPages(119);
        CHECK.same("the 120th", desk.pageOf(0, 50, 51), 119);
        CHECK.same("count(2)", desk.count(2), 120);
        CHECK.shows(desk, 119, 50, 51);
    }

    /** "120 are there". */
    static void promise06RefusesThe121stPage() {
        Desk desk = Desk.withPages(120);
        CHECK.same("the 121st", desk.pageOf(0, 50, 51), -1);
        CHECK.same("of a text that is there", desk.page(0), -1);
        CHECK.same("count(2)", desk.count(2), 120);
        CHECK.same("count(3)", desk.count(3), 120);
        CHECK.same("count(10)", desk.count(10), 2);
        CHECK.same("read(120, 0)", desk.read(120, 0), -1);
    }

    /** "PAGES with the same WORDS in the same order are of one TEXT", wherever they stand. */
    static void promise06FindsTheTextOfTheSameWords() {
        Desk desk = Desk.withText(1, 2);
        desk.folder(0);
        desk.pageOf(0, 1, 2);
        desk.paperOf(1, 0, 1, 2);
        CHECK.same("on the same paper", desk.read(1, 1), 0);
        CHECK.same("on another", desk.read(2, 1), 0);
        CHECK.same("count(3)", desk.count(3), 1);
    }

    /** "the same WORDS in the same order"; "TEXTS are numbered as they come". */
    static void promise06MakesATextOfOtherWords() {
        Desk desk = Desk.withText(1, 2);
        int[][] others = {{2, 1}, {1}, {1, 2, 2}, {2}, {1, 2, 1}, {1, 1}};
        for (int i = 0; i < others.length; i++) {
            desk.pageOf(0, others[i]);
            CHECK.same("text of page " + (1 + i), desk.read(1 + i, 1), 1 + i);
        }
        desk.pageOf(0, 1);
        CHECK.same("a text that came in between", desk.read(7, 1), 2);
        CHECK.same("count(3)", desk.count(3), 7);
    }

    static void promise06TellsTextsOfTwelveWordsApartByTheLast() {
        Desk desk = Desk.withText(1, 2, 3, 4, 5, 6, 7, 8, 9, 10, 11, 12);
        desk.pageOf(0, 1, 2, 3, 4, 5, 6, 7, 8, 9, 10, 11, 13);
        desk.pageOf(0, 1, 2, 3, 4, 5, 6, 7, 8, 9, 10, 11);
        desk.pageOf(0, 1, 2, 3, 4, 5, 6, 7, 8, 9, 10, 11, 12);
        int[] texts = {0, 1, 2, 0};
        for (int page = 0; page < texts.length; page++) {
            CHECK.same("read(" + page + ", 1)", desk.read(page, 1), texts[page]);
        }
    }

    static void promise06MakesUpTo120Texts() {
        Desk desk = Desk.withPages(120);
        CHECK.same("count(3)", desk.count(3), 120);
        CHECK.same("read(119, 1)", desk.read(119, 1), 119);
    }

    static void promise06RefusedPagesLeaveAllAsItWas() {
        CHECK.unchanged(desk -> CHECK.none("page", desk::page, 2, -1, Checks.MIN, Checks.MAX));
    }
}
