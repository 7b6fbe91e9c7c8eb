/**
 * Promise 18: How many PAPERS FIT; NONE: no such ASK. (A PAPER FITS if it lies in that FOLDER, or one in it, and so on;
 * its DAY is within; and each WORD stands on one of its PAGES, not BLACK, as things are now.)
 */
public final class Promise18FoundTest {
    private static final Checks CHECK = new Checks();

    public static void main(String[] args) throws IllegalAccessException {
        CHECK.runAll(Promise18FoundTest.class);
    }

    /** "no such ASK". */
    static void promise18RefusesAsksThatAreNotThere() {
        CHECK.same("without asks", new Desk().found(0), -1);
        Desk desk = Desk.withPapers(2);
        desk.ask(0, 0, 0);
        CHECK.none("found", desk::found, 1, 2, 20, Checks.MAX, -1, Checks.MIN);
        CHECK.same("found(0)", desk.found(0), 2);
    }

    static void promise18TakesTheTwentiethAsk() {
        Desk desk = Desk.withPapers(2);
        for (int i = 0; i < 20; i++) {
            desk.ask(0, 0, 0);
        }
        CHECK.same("found(19)", desk.found(19), 2);
        CHECK.same("found(20)", desk.found(20), -1);
    }

    static void promise18CountsFromNoneToFortyPapers() {
        Desk none = new Desk();
        none.ask(0, 0, 4999);
        CHECK.same("no paper", none.found(0), 0);
        Desk full = Desk.withPapers(40);
        full.ask(0, 0, 0);
        CHECK.same("forty", full.found(0), 40);
    }

    /** "if it lies in that FOLDER": not in the one around it, nor in one beside it. */
    static void promise18LooksIntoTheFolderItself() {
        Desk desk = new Desk();
        desk.folder(0);
        desk.folder(0);
        desk.paperOf(0, 0, 1);
        desk.paperOf(1, 0, 1);
        CHECK.same("all", desk.found(desk.ask(0, 0, 0)), 2);
        CHECK.same("folder 1", desk.found(desk.ask(1, 0, 0)), 1);
        CHECK.same("folder 2, which is empty", desk.found(desk.ask(2, 0, 0)), 0);
    }

    /** "or one in it, and so on". */
    static void promise18LooksIntoFoldersWithin() {
        Desk desk = new Desk();
        int[] in = {0, 1, 2, 0, 4};
        for (int folder : in) {
            desk.folder(folder);
        }
        for (int folder = 0; folder < 6; folder++) {
            desk.paperOf(folder, 0, 1);
        }
        int[] due = {6, 3, 2, 1, 2, 1};
        for (int folder = 0; folder < 6; folder++) {
            CHECK.same("folder " + folder, desk.found(desk.ask(folder, 0, 10)), due[folder]);
        }
    }

    /** "and so on": as deep as there are folders. */
    static void promise18LooksTwentyFoldersDeep() {
        Desk desk = new Desk();
        desk.nestFolders();
        desk.paperOf(19, 0, 1);
        for (int folder = 0; folder < 20; folder++) {
            CHECK.same("folder " + folder, desk.found(desk.ask(folder, 0, 0)), 1);
        }
        desk.paperOf(0, 0, 1);
        CHECK.same("the outermost has two", desk.found(0), 2);
        CHECK.same("the next one has not", desk.found(1), 1);
    }

    /** Folders and papers that come behind the ask are looked into, too. */
    static void promise18LooksAsThingsAreNow() {
        Desk desk = new Desk();
        desk.folder(0);
        desk.ask(1, 0, 9);
        CHECK.same("none", desk.found(0), 0);
        desk.folder(1);
        desk.paperOf(2, 0, 1);
        CHECK.same("one", desk.found(0), 1);
    }

    /** "its DAY is within": from and to are. */
    static void promise18TakesTheDaysFromAndTo() {
        Desk desk = new Desk();
        desk.days(9);
        desk.paperOf(0, 5, 1);
        CHECK.same("5 .. 5", desk.found(desk.ask(0, 5, 5)), 1);
        CHECK.same("5 .. 9", desk.found(desk.ask(0, 5, 9)), 1);
        CHECK.same("0 .. 5", desk.found(desk.ask(0, 0, 5)), 1);
        CHECK.same("4 .. 6", desk.found(desk.ask(0, 4, 6)), 1);
    }

    static void promise18LeavesOutDaysBesideThem() {
        Desk desk = new Desk();
        desk.days(9);
        desk.paperOf(0, 5, 1);
        CHECK.same("6 .. 9", desk.found(desk.ask(0, 6, 9)), 0);
        CHECK.same("0 .. 4", desk.found(desk.ask(0, 0, 4)), 0);
        CHECK.same("6 .. 6", desk.found(desk.ask(0, 6, 6)), 0);
        CHECK.same("4 .. 4", desk.found(desk.ask(0, 4, 4)), 0);
    }

    static void promise18TakesTheFirstAndTheLastDay() {
        Desk desk = Desk.withText(1);
        desk.goTo(4999);
        desk.paperOf(0, 4999, 1);
        CHECK.same("0 .. 0", desk.found(desk.ask(0, 0, 0)), 1);
        CHECK.same("4999 .. 4999", desk.found(desk.ask(0, 4999, 4999)), 1);
        CHECK.same("1 .. 4998", desk.found(desk.ask(0, 1, 4998)), 0);
        CHECK.same("0 .. 4999", desk.found(desk.ask(0, 0, 4999)), 2);
    }

    /** "each WORD": all four, and none is no hindrance. */
    static void promise18NeedsEachWord() {
        Desk desk = Desk.withText(1, 2, 3, 4);
        desk.paperOf(0, 0, 2, 3, 4);
        desk.paperOf(0, 0, 1, 3, 4);
        desk.paperOf(0, 0, 1, 2, 4);
        desk.paperOf(0, 0, 1, 2, 3);
        CHECK.same("four words", desk.found(desk.askFor(0, 0, 0, 1, 2, 3, 4)), 1);
        CHECK.same("three words", desk.found(desk.askFor(0, 0, 0, 1, 2, 3)), 2);
        CHECK.same("one word", desk.found(desk.askFor(0, 0, 0, 4)), 4);
        CHECK.same("no word", desk.found(desk.askFor(0, 0, 0)), 5);
        CHECK.same("a word that is nowhere", desk.found(desk.askFor(0, 0, 0, 1, 5)), 0);
    }

    /** "stands on one of its PAGES": not all on the same one, and not on another paper's. */
    static void promise18LooksForWordsOnAllPagesOfAPaper() {
        Desk desk = Desk.withText(1);
        desk.paperOf(0, 0, 1);
        desk.pageOf(0, 2);
        desk.pageOf(1, 3);
        desk.pageOf(0, 4);
        CHECK.same("1, 2 and 4", desk.found(desk.askFor(0, 0, 0, 1, 2, 4)), 1);
        CHECK.same("2 and 3", desk.found(desk.askFor(0, 0, 0, 2, 3)), 0);
        CHECK.same("3", desk.found(desk.askFor(0, 0, 0, 3)), 1);
    }

    static void promise18FindsTheFirstAndTheLastWordOfAPage() {
        Desk desk = Desk.withText(21, 2, 3, 4, 5, 6, 7, 8, 9, 10, 11, 32);
        CHECK.same("the first", desk.found(desk.askFor(0, 0, 0, 21)), 1);
        CHECK.same("the last", desk.found(desk.askFor(0, 0, 0, 32)), 1);
    }

    /** "not BLACK": one of two places is enough. */
    static void promise18NeedsAWordThatIsNotBlack() {
        Desk desk = Desk.withText(1, 2, 1);
        desk.rulesOf("ground 0 when 1;");
        desk.askFor(0, 0, 0, 1);
        desk.black(0, 0, 0, 0);
        CHECK.same("the first 1 is black", desk.found(0), 1);
        desk.black(0, 2, 2, 0);
        CHECK.same("both are", desk.found(0), 0);
        desk.clear(0, 0);
        CHECK.same("the second one is", desk.found(0), 1);
        desk.black(0, 0, 2, 0);
        CHECK.same("all is black", desk.found(0), 0);
        desk.pageOf(0, 1);
        CHECK.same("another page has it", desk.found(0), 1);
    }

    /** Black words are no hindrance to an ask without words. */
    static void promise18FindsABlackPaperWithoutWords() {
        Desk desk = Desk.withText(1);
        desk.rulesOf("ground 0 when 1;");
        desk.black(0, 0, 0, 0);
        desk.ask(0, 0, 0);
        CHECK.same("found(0)", desk.found(0), 1);
    }

    /** "(as things are now)": a ground may hold for one paper and not for another, today and not tomorrow. */
    static void promise18LooksAtBlackWordsAsTheyAreNow() {
        Desk desk = Desk.withText(1);
        desk.paperOf(0, 0, 1);
        desk.pageOf(1, 2);
        desk.askFor(0, 0, 0, 1);
        desk.black(0, 0, 0, 3);
        CHECK.same("no rules", desk.found(0), 2);
        desk.rulesOf("ground 3 when pages = 2 and age < 1;");
        CHECK.same("black on paper 1", desk.found(0), 1);
        desk.days(1);
        CHECK.same("a day later", desk.found(0), 2);
    }

    static void promise18AsksChangeNothing() {
        CHECK.unchanged(desk -> {
            CHECK.none("found", desk::found, 3, -1, Checks.MIN, Checks.MAX);
            CHECK.same("found(0)", desk.found(0), 2);
        });
    }
}
