/** Promise 11: A SPAN of a TEXT (by number from 0) is taken away: true; false: none such. */
public final class Promise11ClearTest {
    private static final Checks CHECK = new Checks();

    public static void main(String[] args) throws IllegalAccessException {
        CHECK.runAll(Promise11ClearTest.class);
    }

    /** A desk whose text 0 has four words, each under a span of its own, in their order. */
    private static Desk deskOfFour() {
        Desk desk = Desk.withText(1, 2, 3, 4);
        desk.rulesOf("ground 1 when 1;");
        for (int place = 0; place < 4; place++) {
            desk.black(0, place, place, 1);
        }
        return desk;
    }

    /** "by number from 0". */
    static void promise11TakesAwayTheFirstSpan() {
        Desk desk = deskOfFour();
        CHECK.yes("clear(0, 0)", desk.clear(0, 0));
        CHECK.shows(desk, 0, 1, 0, 0, 0);
    }

    static void promise11TakesAwayTheLastSpan() {
        Desk desk = deskOfFour();
        CHECK.yes("clear(0, 3)", desk.clear(0, 3));
        CHECK.shows(desk, 0, 0, 0, 0, 4);
    }

    /** "in the order in which they were told": those behind it move up. */
    static void promise11KeepsTheOrderOfTheOthers() {
        Desk desk = deskOfFour();
        CHECK.yes("span 1", desk.clear(0, 1));
        CHECK.shows(desk, 0, 0, 2, 0, 0);
        CHECK.yes("span 1, which was 2", desk.clear(0, 1));
        CHECK.shows(desk, 0, 0, 2, 3, 0);
        CHECK.yes("span 1, which was 3", desk.clear(0, 1));
        CHECK.shows(desk, 0, 0, 2, 3, 4);
        CHECK.yes("span 0", desk.clear(0, 0));
        CHECK.shows(desk, 0, 1, 2, 3, 4);
    }

    /** A new span comes behind those that are left. */
    static void promise11ThenPutsANewSpanLast() {
        Desk desk = deskOfFour();
        desk.clear(0, 0);
        desk.black(0, 0, 0, 1);
        CHECK.yes("span 3, the new one", desk.clear(0, 3));
        CHECK.shows(desk, 0, 1, 0, 0, 0);
        CHECK.yes("span 0, which was 1", desk.clear(0, 0));
        CHECK.shows(desk, 0, 1, 2, 0, 0);
    }

    /** Spans are in the order in which they were told, not in that of their places or grounds. */
    static void promise11KnowsSpansByWhenTheyWereTold() {
        Desk desk = Desk.withText(1, 2, 3);
        desk.rulesOf("ground 2 when 1; ground 3 when 1; ground 8 when 1;");
        desk.black(0, 2, 2, 8);
        desk.black(0, 1, 1, 2);
        desk.black(0, 0, 0, 3);
        desk.clear(0, 0);
        CHECK.shows(desk, 0, 0, 0, 3);
        desk.clear(0, 1);
        CHECK.shows(desk, 0, 1, 0, 3);
    }

    /** A span that moves up keeps its ground. */
    static void promise11KeepsTheGroundsOfTheOthers() {
        Desk desk = Desk.withText(1, 2, 3);
        desk.rulesOf("ground 2 when 1;");
        desk.black(0, 0, 0, 1);
        desk.black(0, 1, 1, 2);
        desk.black(0, 2, 2, 3);
        desk.clear(0, 0);
        CHECK.shows(desk, 0, 1, 0, 3);
        desk.clear(0, 0);
        CHECK.shows(desk, 0, 1, 2, 3);
    }

    /** "false: none such": the span. */
    static void promise11RefusesSpansThatAreNotThere() {
        Desk desk = deskOfFour();
        CHECK.never("span", span -> desk.clear(0, span), 4, 5, Checks.MAX, -1, Checks.MIN);
        CHECK.shows(desk, 0, 0, 0, 0, 0);
        desk.clear(0, 0);
        CHECK.never("span", span -> desk.clear(0, span), 3, 4, -1);
        CHECK.shows(desk, 0, 1, 0, 0, 0);
        CHECK.same("how many there are", desk.black(0, 0, 0, 1), 4);
    }

    static void promise11RefusesATextWithoutSpans() {
        Desk desk = Desk.withText(1);
        CHECK.never("never had one", span -> desk.clear(0, span), 0, 1, -1);
        desk.black(0, 0, 0, 1);
        desk.clear(0, 0);
        CHECK.never("has none any more", span -> desk.clear(0, span), 0, 1, -1);
        CHECK.same("how many there are", desk.black(0, 0, 0, 1), 1);
    }

    /** "false: none such": the text. */
    static void promise11RefusesTextsThatAreNotThere() {
        CHECK.no("without texts", new Desk().clear(0, 0));
        Desk desk = deskOfFour();
        CHECK.never("text", text -> desk.clear(text, 0), 1, 2, 120, Checks.MAX, -1, Checks.MIN);
        CHECK.shows(desk, 0, 0, 0, 0, 0);
    }

    static void promise11TouchesOneTextAlone() {
        Desk desk = deskOfFour();
        desk.pageOf(0, 8);
        CHECK.no("text 1 has none", desk.clear(1, 0));
        desk.black(1, 0, 0, 1);
        CHECK.yes("clear(1, 0)", desk.clear(1, 0));
        CHECK.shows(desk, 0, 0, 0, 0, 0);
        CHECK.shows(desk, 1, 8);
    }

    static void promise11RefusedSpansLeaveAllAsItWas() {
        CHECK.unchanged(desk -> {
            CHECK.never("span", span -> desk.clear(0, span), 2, 3, -1, Checks.MIN, Checks.MAX);
            CHECK.never("text", text -> desk.clear(text, 0), 2, -1, Checks.MIN, Checks.MAX);
        });
    }
}
