/**
 * Promise 10: A SPAN more of a TEXT: how many; NONE: no such TEXT, places (from above to), GROUND, 4 are there.
 */
public final class Promise10BlackTest {
    private static final Checks CHECK = new Checks();
    private static final String ALL_GROUNDS = "ground 0 when 1;ground 1 when 1;ground 2 when 1;ground 3 when 1;"
            + "ground 4 when 1;ground 5 when 1;ground 6 when 1;ground 7 when 1;ground 8 when 1;ground 9 when 1;";

    public static void main(String[] args) throws IllegalAccessException {
        CHECK.runAll(Promise10BlackTest.class);
    }

    /** A desk whose text 0 has four words, and on which each ground holds. */
    private static Desk deskOfFour() {
        Desk desk = Desk.withText(1, 2, 3, 4);
        desk.rulesOf(ALL_GROUNDS);
        return desk;
    }

    static void promise10AnswersHowManySpansThereAre() {
        Desk desk = deskOfFour();
        desk.pageOf(0, 5);
        CHECK.same("the first", desk.black(0, 1, 1, 5), 1);
        CHECK.same("the second", desk.black(0, 2, 2, 5), 2);
        CHECK.same("the first of text 1", desk.black(1, 0, 0, 5), 1);
    }

    /** "no such TEXT". */
    static void promise10RefusesTextsThatAreNotThere() {
        CHECK.same("without texts", new Desk().black(0, 0, 0, 0), -1);
        Desk desk = deskOfFour();
        desk.pageOf(0, 1, 2, 3, 4);
        CHECK.none("text", text -> desk.black(text, 0, 0, 0), 1, 2, 120, Checks.MAX, -1, Checks.MIN);
        CHECK.shows(desk, 0, 1, 2, 3, 4);
        desk.pageOf(0, 9);
        CHECK.same("text 1 when it is there", desk.black(1, 0, 0, 0), 1);
    }

    static void promise10TakesThe120thText() {
        Desk desk = Desk.withPages(120);
        CHECK.same("text 120", desk.black(120, 0, 0, 0), -1);
        CHECK.same("text 119", desk.black(119, 0, 1, 0), 1);
    }

    /** "places from .. to of its WORDS": from the first place on. */
    static void promise10TakesTheFirstPlace() {
        Desk desk = deskOfFour();
        CHECK.same("0 .. 0", desk.black(0, 0, 0, 0), 1);
        CHECK.shows(desk, 0, 0, 2, 3, 4);
    }

    static void promise10RefusesPlacesBelowTheFirst() {
        Desk desk = deskOfFour();
        CHECK.none("from", from -> desk.black(0, from, 3, 0), -1, -2, Checks.MIN);
        CHECK.none("from and to", place -> desk.black(0, place, place, 0), -1, -2, Checks.MIN);
        CHECK.shows(desk, 0, 1, 2, 3, 4);
        CHECK.same("spans", desk.black(0, 0, 0, 0), 1);
    }

    /** "places from .. to of its WORDS": up to the last place. */
    static void promise10TakesTheLastPlace() {
        Desk desk = deskOfFour();
        CHECK.same("3 .. 3", desk.black(0, 3, 3, 0), 1);
        CHECK.shows(desk, 0, 1, 2, 3, 0);
    }

    static void promise10RefusesPlacesAboveTheLast() {
        Desk desk = deskOfFour();
        CHECK.none("to", to -> desk.black(0, 0, to, 0), 4, 5, 11, 12, Checks.MAX);
        CHECK.none("from and to", place -> desk.black(0, place, place, 0), 4, 5, 11, 12, Checks.MAX);
        CHECK.same("from 3 to 4", desk.black(0, 3, 4, 0), -1);
        CHECK.shows(desk, 0, 1, 2, 3, 4);
        CHECK.same("spans", desk.black(0, 0, 0, 0), 1);
    }

    /** Both ends are black, and no place beside them. */
    static void promise10CoversFromAndToAndAllBetween() {
        Desk desk = deskOfFour();
        CHECK.same("1 .. 2", desk.black(0, 1, 2, 0), 1);
        CHECK.shows(desk, 0, 1, 0, 0, 4);
        CHECK.same("0 .. 3", desk.black(0, 0, 3, 0), 2);
        CHECK.shows(desk, 0, 0, 0, 0, 0);
    }

    /** "(from above to)". */
    static void promise10RefusesFromAboveTo() {
        Desk desk = deskOfFour();
        CHECK.same("1 .. 0", desk.black(0, 1, 0, 0), -1);
        CHECK.same("3 .. 2", desk.black(0, 3, 2, 0), -1);
        CHECK.same("3 .. 0", desk.black(0, 3, 0, 0), -1);
        CHECK.same("0 .. -1", desk.black(0, 0, -1, 0), -1);
        CHECK.same("MAX .. MIN", desk.black(0, Checks.MAX, Checks.MIN, 0), -1);
        CHECK.shows(desk, 0, 1, 2, 3, 4);
        CHECK.same("2 .. 2", desk.black(0, 2, 2, 0), 1);
    }

    static void promise10TakesTheOnePlaceOfOneWord() {
        Desk desk = Desk.withText(9);
        CHECK.same("0 .. 1", desk.black(0, 0, 1, 0), -1);
        CHECK.same("1 .. 1", desk.black(0, 1, 1, 0), -1);
        CHECK.same("0 .. 0", desk.black(0, 0, 0, 0), 1);
    }

    static void promise10TakesAllPlacesOfTwelveWords() {
        Desk desk = Desk.withText(1, 2, 3, 4, 5, 6, 7, 8, 9, 10, 11, 12);
        desk.rulesOf("ground 0 when 1;");
        CHECK.same("0 .. 12", desk.black(0, 0, 12, 0), -1);
        CHECK.same("11 .. 11", desk.black(0, 11, 11, 0), 1);
        CHECK.shows(desk, 0, 1, 2, 3, 4, 5, 6, 7, 8, 9, 10, 11, 0);
        CHECK.same("0 .. 11", desk.black(0, 0, 11, 0), 2);
        CHECK.same("read(0, 3)", desk.read(0, 3), 12);
    }

    /** "a GROUND (0 .. 9)": the least and the most. */
    static void promise10TakesGroundsZeroAndNine() {
        Desk desk = Desk.withText(1, 2);
        CHECK.same("ground 0", desk.black(0, 0, 0, 0), 1);
        CHECK.same("ground 9", desk.black(0, 1, 1, 9), 2);
        CHECK.shows(desk, 0, 1, 2);
        desk.rulesOf("ground 0 when 1;");
        CHECK.shows(desk, 0, 0, 2);
        desk.rulesOf("ground 9 when 1;");
        CHECK.shows(desk, 0, 1, 0);
    }

    static void promise10RefusesGroundsThatAreNotThere() {
        Desk desk = deskOfFour();
        int[] others = {10, 11, 32, 41, Checks.MAX, -1, -23, -32, Checks.MIN};
        CHECK.none("ground", ground -> desk.black(0, 0, 3, ground), others);
        CHECK.shows(desk, 0, 1, 2, 3, 4);
        CHECK.same("spans", desk.black(0, 0, 0, 0), 1);
    }

    /** "SPANS, 4 at most": the 4th. */
    static void promise10TakesTheFourthSpan() {
        Desk desk = deskOfFour();
        for (int i = 0; i < 4; i++) {
            CHECK.same("span " + i, desk.black(0, i, i, 9 - i), i + 1);
        }
        CHECK.shows(desk, 0, 0, 0, 0, 0);
    }

    /** "4 are there". */
    static void promise10RefusesTheFifthSpan() {
        Desk desk = deskOfFour();
        desk.pageOf(0, 8);
        for (int i = 0; i < 4; i++) {
            desk.black(0, 1, 1, 3);
        }
        CHECK.same("a 5th", desk.black(0, 0, 0, 0), -1);
        CHECK.same("one that is there", desk.black(0, 1, 1, 3), -1);
        CHECK.shows(desk, 0, 1, 0, 3, 4);
        CHECK.same("one of another text", desk.black(1, 0, 0, 3), 1);
    }

    static void promise10TakesASpanAgainWhenOneIsCleared() {
        Desk desk = deskOfFour();
        for (int i = 0; i < 4; i++) {
            desk.black(0, i, i, 3);
        }
        desk.clear(0, 3);
        CHECK.same("a 4th again", desk.black(0, 0, 0, 3), 4);
        CHECK.same("a 5th", desk.black(0, 3, 3, 3), -1);
        CHECK.shows(desk, 0, 0, 0, 0, 4);
    }

    /** The same span may come more than once: each counts. */
    static void promise10CountsEqualSpansEach() {
        Desk desk = deskOfFour();
        CHECK.same("once", desk.black(0, 0, 1, 2), 1);
        CHECK.same("twice", desk.black(0, 0, 1, 2), 2);
        CHECK.shows(desk, 0, 0, 0, 3, 4);
        desk.clear(0, 0);
        CHECK.shows(desk, 0, 0, 0, 3, 4);
        desk.clear(0, 0);
        CHECK.shows(desk, 0, 1, 2, 3, 4);
    }

    /** "A WORD of a PAGE is BLACK if .. a SPAN over it whose GROUND holds for the PAGE's PAPER." */
    static void promise10BlackensByThePagesPaper() {
        Desk desk = Desk.withText(1, 2, 3, 4);
        desk.folder(0);
        desk.paperOf(1, 0, 1, 2, 3, 4);
        desk.black(0, 1, 2, 7);
        desk.black(0, 2, 3, 8);
        CHECK.shows(desk, 0, 1, 2, 3, 4);
        desk.rulesOf("ground 7 when folder = 1; ground 8 when folder = 0; ground 7 when age = 2;");
        CHECK.shows(desk, 0, 1, 2, 0, 0);
        CHECK.shows(desk, 1, 1, 0, 0, 4);
        desk.days(2);
        CHECK.shows(desk, 0, 1, 0, 0, 0);
        CHECK.shows(desk, 1, 1, 0, 0, 4);
        desk.rules();
        CHECK.shows(desk, 0, 1, 2, 3, 4);
    }

    static void promise10RefusedSpansLeaveAllAsItWas() {
        CHECK.unchanged(desk -> {
            CHECK.none("text", text -> desk.black(text, 0, 0, 3), 2, -1, Checks.MIN, Checks.MAX);
            CHECK.none("from", from -> desk.black(0, from, 1, 3), 2, -1, Checks.MIN, Checks.MAX);
            CHECK.none("to", to -> desk.black(0, 1, to, 3), 0, 3, -1, Checks.MIN, Checks.MAX);
            CHECK.none("ground", ground -> desk.black(0, 2, 2, ground), 10, -1, Checks.MIN, Checks.MAX);
        });
    }
}
