/** Promise 19: The i-th PAPER that FITS; NONE. */
public final class Promise19FindsTest {
    private static final Checks CHECK = new Checks();

    public static void main(String[] args) throws IllegalAccessException {
        CHECK.runAll(Promise19FindsTest.class);
    }

    /** Six papers, of which 1, 3 and 5 have word 2. */
    private static Desk desk() {
        Desk desk = new Desk();
        for (int i = 0; i < 6; i++) {
            desk.paperOf(0, 0, 1 + i % 2);
        }
        desk.askFor(0, 0, 0, 2);
        return desk;
    }

    /** From 0 on, in the order of their numbers. */
    static void promise19FindsFromTheFirstToTheLast() {
        Desk desk = desk();
        CHECK.same("finds(0, 0)", desk.finds(0, 0), 1);
        CHECK.same("finds(0, 1)", desk.finds(0, 1), 3);
        CHECK.same("finds(0, 2)", desk.finds(0, 2), 5);
    }

    static void promise19RefusesWhatIsBehindTheLast() {
        Desk desk = desk();
        CHECK.none("finds", i -> desk.finds(0, i), 3, 4, 5, 6, 40, Checks.MAX);
    }

    static void promise19RefusesWhatIsBeforeTheFirst() {
        Desk desk = desk();
        CHECK.none("finds", i -> desk.finds(0, i), -1, -2, Checks.MIN);
    }

    static void promise19RefusesAsksThatAreNotThere() {
        CHECK.same("without asks", new Desk().finds(0, 0), -1);
        Desk desk = desk();
        CHECK.none("ask", ask -> desk.finds(ask, 0), 1, 2, 20, Checks.MAX, -1, Checks.MIN);
    }

    static void promise19RefusesWhereNoneFits() {
        Desk none = new Desk();
        none.ask(0, 0, 0);
        CHECK.none("without papers", i -> none.finds(0, i), 0, 1, -1);
        Desk desk = desk();
        desk.askFor(0, 0, 0, 9);
        CHECK.none("where none has the word", i -> desk.finds(1, i), 0, 1, 5, 6);
    }

    static void promise19FindsAllFortyPapers() {
        Desk desk = Desk.withPapers(40);
        desk.ask(0, 0, 0);
        for (int i = 0; i < 40; i++) {
            CHECK.same("finds(0, " + i + ")", desk.finds(0, i), i);
        }
        CHECK.same("finds(0, 40)", desk.finds(0, 40), -1);
    }

    static void promise19FindsTheFortiethAlone() {
        Desk desk = Desk.withPapers(40);
        desk.askFor(0, 0, 0, 40);
        CHECK.same("finds(0, 0)", desk.finds(0, 0), 39);
        CHECK.same("finds(0, 1)", desk.finds(0, 1), -1);
    }

    static void promise19TakesTheTwentiethAsk() {
        Desk desk = desk();
        for (int i = 1; i < 20; i++) {
            desk.ask(0, 0, i);
        }
        CHECK.same("finds(19, 5)", desk.finds(19, 5), 5);
        CHECK.same("finds(20, 0)", desk.finds(20, 0), -1);
    }

    static void promise19AsksChangeNothing() {
        CHECK.unchanged(desk -> {
            CHECK.none("ask", ask -> desk.finds(ask, 0), 3, -1, Checks.MIN, Checks.MAX);
            CHECK.none("i", i -> desk.finds(0, i), 2, 3, -1, Checks.MIN, Checks.MAX);
            CHECK.same("finds(0, 1)", desk.finds(0, 1), 1);
        });
    }
}
