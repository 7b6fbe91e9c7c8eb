/**
 * Promise 14, REPEATS: an ASK with the FOLDER, DAYS and the set of WORDS of an earlier one (as they are when it comes):
 * of the least such.
 */
public final class Promise14RepeatsTest {
    private static final Checks CHECK = new Checks();

    public static void main(String[] args) throws IllegalAccessException {
        CHECK.runAll(Promise14RepeatsTest.class);
    }

    private static void repeats(Desk desk, int ask, int due) {
        CHECK.same("look(" + ask + ", 4)", desk.look(ask, 4), due);
    }

    /** The first one has nothing to repeat. */
    static void promise14TheFirstAskRepeatsNone() {
        Desk desk = new Desk();
        repeats(desk, desk.ask(0, 0, 4999), -1);
        repeats(desk, desk.ask(0, 0, 4999), 0);
    }

    static void promise14TheTwentiethAskMayRepeatTheFirst() {
        Desk desk = new Desk();
        for (int i = 0; i < 19; i++) {
            repeats(desk, desk.ask(0, i, i), -1);
        }
        repeats(desk, desk.ask(0, 0, 0), 0);
    }

    /** "of the least such". */
    static void promise14RepeatsTheLeast() {
        Desk desk = new Desk();
        desk.ask(0, 3, 3);
        desk.ask(0, 2, 5);
        desk.ask(0, 2, 5);
        repeats(desk, 2, 1);
        repeats(desk, desk.ask(0, 2, 5), 1);
    }

    static void promise14NeedsTheSameFolder() {
        Desk desk = new Desk();
        desk.folder(0);
        desk.ask(0, 2, 5);
        repeats(desk, desk.ask(1, 2, 5), -1);
        repeats(desk, desk.ask(1, 2, 5), 1);
    }

    static void promise14NeedsTheSameDays() {
        Desk desk = new Desk();
        desk.ask(0, 2, 5);
        repeats(desk, desk.ask(0, 1, 5), -1);
        repeats(desk, desk.ask(0, 3, 5), -1);
        repeats(desk, desk.ask(0, 2, 4), -1);
        repeats(desk, desk.ask(0, 2, 6), -1);
        repeats(desk, desk.ask(0, 2, 5), 0);
    }

    /** "the set of WORDS": not one less, not one more, not another. */
    static void promise14NeedsTheSameSetOfWords() {
        Desk desk = new Desk();
        desk.askFor(0, 0, 9, 7, 8);
        repeats(desk, desk.askFor(0, 0, 9), -1);
        repeats(desk, desk.askFor(0, 0, 9, 7), -1);
        repeats(desk, desk.askFor(0, 0, 9, 8), -1);
        repeats(desk, desk.askFor(0, 0, 9, 7, 9), -1);
        repeats(desk, desk.askFor(0, 0, 9, 7, 8, 9), -1);
        repeats(desk, desk.askFor(0, 0, 9, 7, 8), 0);
        repeats(desk, desk.askFor(0, 0, 9, 1, 2, 3, 4), -1);
        repeats(desk, desk.askFor(0, 0, 9, 4, 3, 2, 1), 7);
        repeats(desk, desk.askFor(0, 0, 9), 1);
    }

    /** "the set": neither order nor number counts. */
    static void promise14TakesWordsAsASet() {
        Desk desk = new Desk();
        desk.askFor(0, 0, 9, 7, 8);
        repeats(desk, desk.askFor(0, 0, 9, 8, 7), 0);
        repeats(desk, desk.askFor(0, 0, 9, 8, 8, 7, 7), 0);
        desk.askFor(0, 0, 9, 5, 5, 5);
        repeats(desk, desk.askFor(0, 0, 9, 5), 3);
        repeats(desk, desk.askFor(0, 0, 9, 5, 5, 6), -1);
    }

    /** "as they are when it comes": the earlier one's words as narrowed by then. */
    static void promise14ComparesWithNarrowedAsks() {
        Desk desk = new Desk();
        desk.ask(0, 2, 5);
        desk.ask(0, 2, 5);
        desk.narrow(0, 30);
        repeats(desk, desk.ask(0, 2, 5), 1);
        repeats(desk, desk.askFor(0, 2, 5, 30), 0);
        desk.narrow(1, 31);
        desk.narrow(1, 30);
        repeats(desk, desk.askFor(0, 2, 5, 30, 31), 1);
    }

    /** "as they are when it comes": what is narrowed behind changes nothing. */
    static void promise14KeepsWhatItRepeated() {
        Desk desk = new Desk();
        desk.ask(0, 2, 5);
        desk.ask(0, 2, 5);
        desk.ask(0, 2, 5);
        desk.narrow(0, 30);
        repeats(desk, 1, 0);
        desk.narrow(2, 31);
        repeats(desk, 2, 0);
    }

    /** Narrowing one to what an earlier one asks does not make it repeat that. */
    static void promise14NarrowingRepeatsNothing() {
        Desk desk = new Desk();
        desk.askFor(0, 2, 5, 30);
        desk.ask(0, 2, 5);
        desk.narrow(1, 30);
        repeats(desk, 1, -1);
    }

    static void promise14RepeatsWhateverTheDayAndTheStop() {
        Desk desk = new Desk();
        desk.ask(0, 2, 5);
        desk.stop(0, true);
        desk.goTo(4999);
        repeats(desk, desk.ask(0, 2, 5), 0);
    }
}
