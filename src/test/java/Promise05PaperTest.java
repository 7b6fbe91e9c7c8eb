/**
 * Promise 5: A new PAPER with the PAGE that is told (none is told then): its number; NONE: no WORDS are, no such
 * FOLDER, a DAY above NOW, below 0, 40, 120 are there.
 */
public final class Promise05PaperTest {
    private static final Checks CHECK = new Checks();

    public static void main(String[] args) throws IllegalAccessException {
        CHECK.runAll(Promise05PaperTest.class);
    }

    private static Desk deskOnDayTen() {
        Desk desk = new Desk();
        desk.days(10);
        desk.tell(4, 5);
        return desk;
    }

    static void promise05NumbersPapersAsTheyCome() {
        Desk desk = deskOnDayTen();
        CHECK.same("the first", desk.paper(0, 3), 0);
        CHECK.same("the second", desk.paperOf(0, 2, 4, 5), 1);
        CHECK.same("count(1)", desk.count(1), 2);
        CHECK.same("count(2)", desk.count(2), 2);
        CHECK.same("read(1, 0)", desk.read(1, 0), 1);
        CHECK.shows(desk, 0, 4, 5);
    }

    /** "none is told then". */
    static void promise05TakesWhatIsTold() {
        Desk desk = deskOnDayTen();
        desk.paper(0, 0);
        CHECK.same("count(10)", desk.count(10), 0);
        CHECK.same("paper(0, 0)", desk.paper(0, 0), -1);
    }

    /** "no WORDS are". */
    static void promise05RefusesAPaperWithoutWords() {
        Desk desk = new Desk();
        CHECK.same("paper(0, 0)", desk.paper(0, 0), -1);
        CHECK.same("count(1)", desk.count(1), 0);
        CHECK.same("count(2)", desk.count(2), 0);
    }

    /** "PAGES of 1 to 12 WORDS": the least. */
    static void promise05TakesAPageOfOneWord() {
        Desk desk = Desk.withText(7);
        CHECK.same("count(1)", desk.count(1), 1);
        CHECK.same("read(0, 2)", desk.read(0, 2), 1);
        CHECK.same("read(0, 5)", desk.read(0, 5), -1);
    }

    /** "PAGES of 1 to 12 WORDS": the most. */
    static void promise05TakesAPageOfTwelveWords() {
        Desk desk = Desk.withText(12, 11, 10, 9, 8, 7, 6, 5, 4, 3, 2, 1);
        CHECK.same("count(1)", desk.count(1), 1);
        CHECK.same("read(0, 2)", desk.read(0, 2), 12);
        CHECK.shows(desk, 0, 12, 11, 10, 9, 8, 7, 6, 5, 4, 3, 2, 1);
    }

    static void promise05TakesTheLastFolder() {
        Desk desk = deskOnDayTen();
        desk.folder(0);
        desk.folder(0);
        CHECK.same("paper(2, 0)", desk.paper(2, 0), 0);
        CHECK.same("found in folder 2", desk.found(desk.ask(2, 0, 9)), 1);
    }

    /** "no such FOLDER". */
    static void promise05RefusesFoldersThatAreNotThere() {
        Desk desk = deskOnDayTen();
        desk.folder(0);
        CHECK.none("paper in folder", folder -> desk.paper(folder, 0), 2, 20, -1, Checks.MIN, Checks.MAX);
        CHECK.same("count(1)", desk.count(1), 0);
        CHECK.same("count(10)", desk.count(10), 2);
    }

    /** "a DAY (up to NOW)". */
    static void promise05TakesDaysZeroToNow() {
        Desk desk = deskOnDayTen();
        CHECK.same("day 10", desk.paper(0, 10), 0);
        CHECK.same("day 0", desk.paperOf(0, 0, 4), 1);
        CHECK.same("found on day 10", desk.found(desk.ask(0, 10, 10)), 1);
        CHECK.same("found on day 0", desk.found(desk.ask(0, 0, 0)), 1);
    }

    /** "a DAY above NOW". */
    static void promise05RefusesADayAboveNow() {
        Desk desk = deskOnDayTen();
        CHECK.none("paper of day", day -> desk.paper(0, day), 11, 12, 4999, 5000, Checks.MAX);
        CHECK.same("count(10)", desk.count(10), 2);
        desk.days(1);
        CHECK.same("day 11 a day later", desk.paper(0, 11), 0);
    }

    /** "below 0". */
    static void promise05RefusesADayBelowZero() {
        Desk desk = deskOnDayTen();
        CHECK.none("paper of day", day -> desk.paper(0, day), -1, -10, Checks.MIN);
        CHECK.same("count(10)", desk.count(10), 2);
    }

    static void promise05TakesTheLastDayOfAll() {
        Desk desk = new Desk();
        desk.goTo(4999);
        desk.word(1);
        CHECK.same("day 5000", desk.paper(0, 5000), -1);
        CHECK.same("day 4999", desk.paper(0, 4999), 0);
    }

    /** "PAPERS, 40 at most": the 40th. */
    static void promise05TakesTheFortiethPaper() {
        Desk desk = Desk.withPapers(39);
        CHECK.same("the 40th", desk.paperOf(0, 0, 50), 39);
        CHECK.same("count(1)", desk.count(1), 40);
        CHECK.same("a page of it", desk.pageOf(39, 51), 40);
    }

    /** "40 .. are there". */
    static void promise05RefusesTheFortyFirstPaper() {
        Desk desk = Desk.withPapers(40);
        CHECK.same("the 41st", desk.paperOf(0, 0, 50, 51), -1);
        CHECK.same("count(1)", desk.count(1), 40);
        CHECK.same("count(2)", desk.count(2), 40);
        CHECK.same("count(3)", desk.count(3), 40);
        CHECK.same("count(10)", desk.count(10), 2);
        CHECK.same("as a page", desk.page(0), 40);
    }

    /** "120 PAGES in all": the 120th as a paper of its own. */
    static void promise05TakesThe120thPage() {
        Desk desk = Desk.withPages(119);
        CHECK.same("a paper", desk.paperOf(0, 0, 50, 51), 1);
        CHECK.same("count(1)", desk.count(1), 2);
        CHECK.same("count(2)", desk.count(2), 120);
    }

    /** "120 are there". */
    static void promise05RefusesThe121stPage() {
        Desk desk = Desk.withPages(120);
        CHECK.same("a paper", desk.paperOf(0, 0, 50, 51), -1);
        CHECK.same("count(1)", desk.count(1), 1);
        CHECK.same("count(2)", desk.count(2), 120);
        CHECK.same("count(3)", desk.count(3), 120);
        CHECK.same("count(10)", desk.count(10), 2);
    }

    static void promise05RefusesAPaperWhereBothAreFull() {
        Desk desk = Desk.withPapers(40);
        for (int i = 40; i < 120; i++) {
            desk.pageOf(i % 40, 1);
        }
        CHECK.same("count(2)", desk.count(2), 120);
        CHECK.same("a paper", desk.paperOf(0, 0, 1), -1);
        CHECK.same("a page", desk.page(39), -1);
        CHECK.same("count(1)", desk.count(1), 40);
    }

    static void promise05RefusedPapersLeaveAllAsItWas() {
        CHECK.unchanged(desk -> {
            CHECK.none("paper in folder", folder -> desk.paper(folder, 0), 3, -1, Checks.MIN, Checks.MAX);
            CHECK.none("paper of day", day -> desk.paper(0, day), 6, -1, Checks.MIN, Checks.MAX);
        });
    }
}
