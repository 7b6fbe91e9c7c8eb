/**
 * Promise 15: NARROWED; NONE: no such ASK, WORD, it has 4, it has that one. (One more WORD comes to an ASK: how many
 * PAPERS that fitted do no more.)
 */
public final class Promise15NarrowTest {
    private static final Checks CHECK = new Checks();

    public static void main(String[] args) throws IllegalAccessException {
        CHECK.runAll(Promise15NarrowTest.class);
    }

    /** Three papers, with words 1 to 3, 1 to 2, and 1 alone, and an ask without words. */
    private static Desk desk() {
        Desk desk = Desk.withText(1, 2, 3);
        desk.paperOf(0, 0, 1, 2);
        desk.paperOf(0, 0, 1);
        desk.ask(0, 0, 0);
        return desk;
    }

    /** "how many PAPERS that fitted do no more": none, some, all. */
    static void promise15CountsThePapersThatFitNoMore() {
        Desk desk = desk();
        CHECK.same("word 1", desk.narrow(0, 1), 0);
        CHECK.same("word 2", desk.narrow(0, 2), 1);
        CHECK.same("found(0)", desk.found(0), 2);
        CHECK.same("word 9", desk.narrow(0, 9), 2);
        CHECK.same("found(0)", desk.found(0), 0);
        CHECK.same("word 3, where none fits", desk.narrow(0, 3), 0);
    }

    static void promise15CountsAllFortyPapers() {
        Desk desk = Desk.withPapers(40);
        desk.ask(0, 0, 0);
        CHECK.same("word 99", desk.narrow(0, 99), 40);
        desk.ask(0, 0, 0);
        CHECK.same("word 40", desk.narrow(1, 40), 39);
    }

    static void promise15CountsOnAnEmptyDesk() {
        Desk desk = new Desk();
        desk.ask(0, 0, 0);
        CHECK.same("narrow(0, 1)", desk.narrow(0, 1), 0);
        CHECK.same("look(0, 6)", desk.look(0, 6), 1);
    }

    /** A black word is not there. */
    static void promise15CountsAPaperWhoseWordIsBlack() {
        Desk desk = desk();
        desk.rulesOf("ground 0 when 1;");
        desk.black(0, 1, 1, 0);
        CHECK.same("word 2", desk.narrow(0, 2), 2);
        CHECK.same("finds(0, 0)", desk.finds(0, 0), 1);
    }

    /** "no such ASK". */
    static void promise15RefusesAsksThatAreNotThere() {
        CHECK.same("without asks", new Desk().narrow(0, 1), -1);
        Desk desk = desk();
        desk.ask(0, 0, 1);
        CHECK.none("ask", ask -> desk.narrow(ask, 2), 2, 3, 20, Checks.MAX, -1, Checks.MIN);
        CHECK.same("look(0, 6)", desk.look(0, 6), 0);
        CHECK.same("look(1, 6)", desk.look(1, 6), 0);
        CHECK.same("ask 1", desk.narrow(1, 2), 1);
        CHECK.same("look(0, 6)", desk.look(0, 6), 0);
    }

    static void promise15TakesTheTwentiethAsk() {
        Desk desk = desk();
        for (int i = 1; i < 20; i++) {
            desk.ask(0, 0, i);
        }
        CHECK.same("ask 20", desk.narrow(20, 2), -1);
        CHECK.same("ask 19", desk.narrow(19, 2), 1);
    }

    /** "no such .. WORD": 1 to 99. */
    static void promise15TakesWordsOneAndNinetyNine() {
        Desk desk = Desk.withText(1, 99);
        desk.paperOf(0, 0, 1);
        desk.paperOf(0, 0, 99);
        desk.ask(0, 0, 0);
        CHECK.same("word 1", desk.narrow(0, 1), 1);
        CHECK.same("word 99", desk.narrow(0, 99), 1);
        CHECK.same("found(0)", desk.found(0), 1);
    }

    static void promise15RefusesWordsThatAreNotThere() {
        Desk desk = desk();
        CHECK.none("word", word -> desk.narrow(0, word), 0, -1, Checks.MIN, 100, 101, Checks.MAX);
        CHECK.same("look(0, 6)", desk.look(0, 6), 0);
        CHECK.same("found(0)", desk.found(0), 3);
    }

    /** "(4 at most)": the fourth. */
    static void promise15TakesTheFourthWord() {
        Desk desk = Desk.withText(1, 2, 3, 4, 5);
        desk.ask(0, 0, 0);
        for (int word = 1; word <= 4; word++) {
            CHECK.same("word " + word, desk.narrow(0, word), 0);
            CHECK.same("look(0, 6)", desk.look(0, 6), word);
        }
        CHECK.same("found(0)", desk.found(0), 1);
        desk.askFor(0, 0, 0, 1, 2, 3);
        CHECK.same("a fourth to three told", desk.narrow(1, 4), 0);
    }

    /** "it has 4". */
    static void promise15RefusesTheFifthWord() {
        Desk desk = Desk.withText(1, 2, 3, 4, 5);
        desk.askFor(0, 0, 0, 1, 2, 3, 4);
        CHECK.none("word", word -> desk.narrow(0, word), 5, 99, 1);
        CHECK.same("look(0, 6)", desk.look(0, 6), 4);
        CHECK.same("found(0)", desk.found(0), 1);
        desk.askFor(0, 0, 0, 1, 2, 3);
        desk.narrow(1, 4);
        CHECK.same("one narrowed to four", desk.narrow(1, 99), -1);
        CHECK.same("found(1)", desk.found(1), 1);
    }

    /** Four words that were told are four, also where they are one. */
    static void promise15RefusesAFifthWordToOneToldFourTimes() {
        Desk desk = desk();
        desk.askFor(0, 0, 0, 1, 1, 1, 1);
        CHECK.same("word 2", desk.narrow(1, 2), -1);
        desk.askFor(0, 0, 0, 1, 1, 1);
        CHECK.same("a fourth", desk.narrow(2, 2), 1);
        CHECK.same("a fifth", desk.narrow(2, 3), -1);
    }

    /** "it has that one". */
    static void promise15RefusesAWordThatItHas() {
        Desk desk = desk();
        desk.askFor(0, 0, 0, 2, 3);
        CHECK.none("told", word -> desk.narrow(1, word), 2, 3);
        desk.narrow(0, 1);
        CHECK.same("narrowed", desk.narrow(0, 1), -1);
        CHECK.same("look(0, 6)", desk.look(0, 6), 1);
        CHECK.same("look(1, 6)", desk.look(1, 6), 2);
    }

    static void promise15MayNarrowAStoppedAsk() {
        Desk desk = desk();
        desk.stop(0, true);
        CHECK.same("word 2", desk.narrow(0, 2), 1);
    }

    static void promise15RefusedWordsLeaveAllAsItWas() {
        CHECK.unchanged(desk -> {
            CHECK.none("ask", ask -> desk.narrow(ask, 5), 3, -1, Checks.MIN, Checks.MAX);
            CHECK.none("word", word -> desk.narrow(0, word), 7, 0, 100, -1, Checks.MIN, Checks.MAX);
            CHECK.none("to one that has 4", word -> desk.narrow(2, word), 5, 8, 9);
        });
    }
}
