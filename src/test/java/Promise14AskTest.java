/**
 * Promise 14: An ASK for a FOLDER and DAYS, with the WORDS that are told as a PAGE (4 at most; none is told then): its
 * number; NONE: no such FOLDER, DAYS (0 .. 4999, from above to), 5 WORDS and more, 20 are there (what is told stays).
 */
public final class Promise14AskTest {
    private static final Checks CHECK = new Checks();

    public static void main(String[] args) throws IllegalAccessException {
        CHECK.runAll(Promise14AskTest.class);
    }

    /** A desk with word 7 told, and a paper that has it. */
    private static Desk told() {
        Desk desk = Desk.withText(7);
        desk.word(7);
        return desk;
    }

    /** "what is told stays": its word comes with the next ask, which finds the paper until it is narrowed. */
    private static void stays(Desk desk) {
        CHECK.same("count(5)", desk.count(5), 0);
        CHECK.same("count(10)", desk.count(10), 1);
        int ask = desk.ask(0, 0, 4999);
        CHECK.same("the next ask", ask, 0);
        CHECK.same("its words", desk.look(ask, 6), 1);
        CHECK.same("it has that one", desk.narrow(ask, 7), -1);
    }

    static void promise14NumbersAsksAsTheyCome() {
        Desk desk = new Desk();
        CHECK.same("the first", desk.ask(0, 0, 5), 0);
        CHECK.same("the same again", desk.ask(0, 0, 5), 1);
        CHECK.same("another", desk.ask(0, 1, 5), 2);
        CHECK.same("count(5)", desk.count(5), 3);
    }

    /** "none is told then". */
    static void promise14TakesWhatIsTold() {
        Desk desk = told();
        CHECK.same("ask(0, 0, 0)", desk.ask(0, 0, 0), 0);
        CHECK.same("count(10)", desk.count(10), 0);
        CHECK.same("the next one", desk.ask(0, 0, 0), 1);
        CHECK.same("look(0, 6)", desk.look(0, 6), 1);
        CHECK.same("look(1, 6)", desk.look(1, 6), 0);
    }

    static void promise14TakesTheFirstAndTheLastFolder() {
        Desk desk = new Desk();
        desk.nestFolders();
        CHECK.same("folder 0", desk.ask(0, 0, 0), 0);
        CHECK.same("folder 19", desk.ask(19, 0, 0), 1);
    }

    /** "no such FOLDER". */
    static void promise14RefusesFoldersThatAreNotThere() {
        Desk desk = told();
        CHECK.none("folder", folder -> desk.ask(folder, 0, 5), 1, 2, 20, Checks.MAX, -1, Checks.MIN);
        stays(desk);
    }

    /** "DAYS (0 .. 4999 ..)": the least. */
    static void promise14TakesDayZero() {
        CHECK.same("0 .. 0", new Desk().ask(0, 0, 0), 0);
        CHECK.same("0 .. 4999", new Desk().ask(0, 0, 4999), 0);
    }

    static void promise14RefusesDaysBelowZero() {
        Desk desk = told();
        CHECK.none("from", from -> desk.ask(0, from, 5), -1, -2, Checks.MIN);
        CHECK.none("from and to", day -> desk.ask(0, day, day), -1, -2, Checks.MIN);
        stays(desk);
    }

    /** "DAYS (0 .. 4999 ..)": the most, whatever NOW is. */
    static void promise14TakesDay4999() {
        CHECK.same("4999 .. 4999", new Desk().ask(0, 4999, 4999), 0);
        CHECK.same("4998 .. 4999", new Desk().ask(0, 4998, 4999), 0);
    }

    static void promise14RefusesDaysAbove4999() {
        Desk desk = told();
        CHECK.none("to", to -> desk.ask(0, 0, to), 5000, 5001, Checks.MAX);
        CHECK.none("from and to", day -> desk.ask(0, day, day), 5000, 5001, Checks.MAX);
        stays(desk);
    }

    /** "from above to". */
    static void promise14RefusesFromAboveTo() {
        Desk desk = told();
        CHECK.same("1 .. 0", desk.ask(0, 1, 0), -1);
        CHECK.same("4999 .. 4998", desk.ask(0, 4999, 4998), -1);
        CHECK.same("4999 .. 0", desk.ask(0, 4999, 0), -1);
        CHECK.same("0 .. -1", desk.ask(0, 0, -1), -1);
        CHECK.same("MAX .. MIN", desk.ask(0, Checks.MAX, Checks.MIN), -1);
        stays(desk);
    }

    /** From and to may be one day. */
    static void promise14TakesOneDay() {
        CHECK.same("7 .. 7", new Desk().ask(0, 7, 7), 0);
        CHECK.same("7 .. 8", new Desk().ask(0, 7, 8), 0);
    }

    /** "0 to 4 WORDS": none. */
    static void promise14TakesNoWords() {
        Desk desk = Desk.withText(7);
        CHECK.same("ask(0, 0, 0)", desk.ask(0, 0, 0), 0);
        CHECK.same("look(0, 6)", desk.look(0, 6), 0);
        CHECK.same("found(0)", desk.found(0), 1);
    }

    /** "0 to 4 WORDS": four. */
    static void promise14TakesFourWords() {
        Desk desk = Desk.withText(1, 2, 3, 4);
        desk.paperOf(0, 0, 1, 2, 3);
        desk.paperOf(0, 0, 2, 3, 4);
        CHECK.same("ask", desk.askFor(0, 0, 0, 1, 2, 3, 4), 0);
        CHECK.same("look(0, 6)", desk.look(0, 6), 4);
        CHECK.same("found(0)", desk.found(0), 1);
    }

    /** "5 WORDS and more .. (what is told stays)". */
    static void promise14RefusesFiveWords() {
        Desk desk = new Desk();
        CHECK.same("five", desk.askFor(0, 0, 5, 1, 2, 3, 4, 5), -1);
        CHECK.same("count(10)", desk.count(10), 5);
        CHECK.same("twelve", desk.askFor(0, 0, 5, 6, 7, 8, 9, 10, 11, 12), -1);
        CHECK.same("count(10)", desk.count(10), 12);
        CHECK.same("count(5)", desk.count(5), 0);
        CHECK.same("as a paper", desk.paper(0, 0), 0);
        CHECK.shows(desk, 0, 1, 2, 3, 4, 5, 6, 7, 8, 9, 10, 11, 12);
    }

    /** Five words are too many also where they are one word told again. */
    static void promise14RefusesOneWordToldFiveTimes() {
        Desk desk = new Desk();
        CHECK.same("five times", desk.askFor(0, 0, 5, 3, 3, 3, 3, 3), -1);
        CHECK.same("count(10)", desk.count(10), 5);
        Desk four = new Desk();
        CHECK.same("four times", four.askFor(0, 0, 5, 3, 3, 3, 3), 0);
        CHECK.same("look(0, 6)", four.look(0, 6), 4);
    }

    /** "ASKS, 20 at most": the 20th. */
    static void promise14TakesTheTwentiethAsk() {
        Desk desk = told();
        for (int i = 0; i < 19; i++) {
            CHECK.same("ask " + i, desk.ask(0, i, i), i);
        }
        CHECK.same("the 20th", desk.askFor(0, 0, 0, 7), 19);
        CHECK.same("found(19)", desk.found(19), 1);
        CHECK.same("count(5)", desk.count(5), 20);
    }

    /** "20 are there (what is told stays)". */
    static void promise14RefusesTheTwentyFirstAsk() {
        Desk desk = new Desk();
        for (int i = 0; i < 20; i++) {
            desk.ask(0, i, i);
        }
        CHECK.same("the 21st", desk.ask(0, 50, 50), -1);
        CHECK.same("the 21st with words", desk.askFor(0, 50, 50, 8, 9), -1);
        CHECK.same("count(5)", desk.count(5), 20);
        CHECK.same("count(10)", desk.count(10), 2);
        desk.paper(0, 0);
        CHECK.shows(desk, 0, 8, 9);
        CHECK.same("found(20)", desk.found(20), -1);
    }

    /** The ask comes on NOW. */
    static void promise14NotesTheDay() {
        Desk desk = new Desk();
        desk.ask(0, 0, 0);
        desk.goTo(4999);
        desk.ask(0, 0, 0);
        CHECK.same("look(0, 0)", desk.look(0, 0), 0);
        CHECK.same("look(1, 0)", desk.look(1, 0), 4999);
    }

    static void promise14RefusedAsksLeaveAllAsItWas() {
        CHECK.unchanged(desk -> {
            CHECK.none("folder", folder -> desk.ask(folder, 0, 5), 3, -1, Checks.MIN, Checks.MAX);
            CHECK.none("from", from -> desk.ask(0, from, 5), 6, -1, Checks.MIN, Checks.MAX);
            CHECK.none("to", to -> desk.ask(0, 5, to), 4, 5000, -1, Checks.MIN, Checks.MAX);
        });
    }
}
