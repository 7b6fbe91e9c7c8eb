/** Promise 13, what the lines mean: a GROUND holds for a PAPER if the E of any line for it is not 0. */
public final class Promise13ValuesTest {
    private static final Checks CHECK = new Checks();

    public static void main(String[] args) throws IllegalAccessException {
        CHECK.runAll(Promise13ValuesTest.class);
    }

    /** A desk on day 20 with a paper of day 12 in folder 3, with two pages and three thirds, of whom one was heard. */
    private static Desk desk() {
        Desk desk = new Desk();
        desk.days(20);
        desk.folder(0);
        desk.folder(1);
        desk.folder(0);
        desk.paperOf(3, 12, 1);
        desk.pageOf(0, 2);
        desk.third(0, 1, true);
        desk.third(0, 4, true);
        desk.third(0, 7, true);
        desk.heard(4);
        desk.black(0, 0, 0, 6);
        return desk;
    }

    private static void holds(Desk desk, String expression, boolean due) {
        CHECK.same("rules() for " + expression, desk.rulesOf("ground 6 when " + expression + ";"), 0);
        CHECK.same(expression, desk.read(0, 3), due ? 1 : 0);
    }

    private static void holds(String expression) {
        holds(desk(), expression, true);
    }

    private static void fails(String expression) {
        holds(desk(), expression, false);
    }

    /** "is not 0": below and above. */
    static void promise13HoldsForEachValueButZero() {
        fails("0");
        fails("0000");
        holds("1");
        holds("9999");
        holds("0-1");
        holds("0-9999");
        fails("5-5");
    }

    static void promise13ReadsNumbersAsTen() {
        holds("0010 = 10");
        holds("10 = 9+1");
        holds("9999 = 9998+1");
        holds("1000-1 = 0999");
        fails("1234 = 4321");
    }

    static void promise13CountsSumsFromTheLeft() {
        fails("3-2-1");
        holds("3-(2-1)");
        fails("1+2-3");
        holds("1-2+3 = 2");
        holds("1-(2+3) = 0-4");
        holds("1+1+1+1 = 4");
    }

    /** "<": 1 or 0, and 0 where both are the same. */
    static void promise13ComparesByLess() {
        fails("2 < 1");
        fails("2 < 2");
        holds("1 < 2");
        holds("0-1 < 0");
        fails("0 < 0-1");
        holds("(1 < 2) = 1");
        holds("(2 < 1) = 0");
        holds("3-1 < 1+2");
    }

    /** "=": 1 or 0. */
    static void promise13ComparesByEqual() {
        holds("2 = 2");
        fails("2 = 3");
        fails("3 = 2");
        holds("0 = 0");
        holds("(2 = 2) = 1");
        holds("(2 = 3) = 0");
        holds("1+1 = 3-1");
    }

    /** "and": 1 if both sides are not 0. */
    static void promise13JoinsByAnd() {
        fails("0 and 0");
        fails("1 and 0");
        fails("0 and 1");
        holds("1 and 1");
        holds("(2 and 4) = 1");
        fails("(2 and 4) = 4");
        holds("(0 and 4) = 0");
        holds("(0-1 and 2) = 1");
        holds("(1-2 and 2-1) + 1 = 2");
    }

    static void promise13JoinsMoreThanTwo() {
        holds("1 and 2 and 3");
        fails("0 and 2 and 3");
        fails("1 and 0 and 3");
        fails("1 and 2 and 0");
        holds("(1 and 2 and 3) = 1");
    }

    static void promise13BindsSumsBeforeTestsBeforeAnd() {
        holds("1 and 0 < 1");
        fails("1 and 2 < 1");
        fails("0 and 1 = 0");
        holds("1 = 2-1 and 2 < 1+2");
        holds("(1 < 2)+(2 < 3) = 2");
    }

    static void promise13CountsTheLongestSum() {
        Desk desk = desk();
        holds(desk, "9999" + "+9999".repeat(100) + "-9999".repeat(15), true);
        holds(desk, "1" + "-1".repeat(280), true);
        holds(desk, "1" + "-1".repeat(140) + "+1".repeat(139), false);
        holds(desk, "140" + "-1".repeat(140), false);
    }

    /** "{ and TEST }": any more, as many as there is room for. */
    static void promise13CountsTheLongestAnd() {
        Desk desk = desk();
        holds(desk, "1" + " and 1".repeat(97), true);
        holds(desk, "1" + " and 1".repeat(96) + " and 0", false);
        holds(desk, "0" + " and 1".repeat(97), false);
    }

    static void promise13CountsTheDeepestExpression() {
        String deep = "1 and 1=1+(1 and 1=1+(1 and 1=1+(1 and 1=1+(1 and 1=1+";
        fails(deep + "1))))");
        holds(deep + "0))))");
        fails("(1<(2<(3<(4-3))))");
        fails("0 and (1=1 and (2<2+(3=3 and (4+5=9))))");
        holds("1=1 and (0<1+(1 and (2=1+(0<1 and 3=3))))");
        holds("5-(4-(3-(2-(1)))) = 3");
    }

    static void promise13KnowsWhatAPaperHas() {
        holds("age = 8");
        holds("day = 12");
        holds("folder = 3");
        holds("pages = 2");
        holds("thirds = 3");
        holds("age+day+folder+pages+thirds = 28");
        fails("folder-thirds");
    }

    /** "age: DAYS from the PAPER's to NOW": none, and as many as can be. */
    static void promise13KnowsTheLeastAndTheMostAge() {
        Desk desk = Desk.withText(1);
        desk.black(0, 0, 0, 6);
        holds(desk, "age", false);
        desk.days(1);
        CHECK.same("a day later", desk.read(0, 3), 1);
        desk.goTo(4999);
        holds(desk, "age = 4999", true);
    }

    /** "day: the PAPER's". */
    static void promise13KnowsTheLeastAndTheMostDay() {
        Desk desk = Desk.withText(1);
        desk.black(0, 0, 0, 6);
        holds(desk, "day", false);
        desk.goTo(4999);
        holds(desk, "day", false);
        Desk last = new Desk();
        last.goTo(4999);
        last.paperOf(0, 4999, 1);
        last.black(0, 0, 0, 6);
        holds(last, "day = 4999 and age = 0", true);
    }

    /** "folder: its number". */
    static void promise13KnowsTheLeastAndTheMostFolder() {
        Desk desk = Desk.withText(1);
        desk.black(0, 0, 0, 6);
        desk.nestFolders();
        desk.paperOf(19, 0, 1);
        holds(desk, "folder = 19", false);
        CHECK.same("of folder 19", desk.read(1, 3), 1);
        holds(desk, "folder = 0", true);
        CHECK.same("of folder 19", desk.read(1, 3), 0);
    }

    /** "pages: how many the PAPER has". */
    static void promise13KnowsTheLeastAndTheMostPages() {
        Desk desk = Desk.withText(1);
        desk.black(0, 0, 0, 6);
        holds(desk, "pages = 1", true);
        Desk full = Desk.withPages(120);
        full.black(0, 0, 0, 6);
        holds(full, "pages = 120", true);
        Desk two = Desk.withPapers(3);
        two.black(0, 0, 0, 6);
        two.pageOf(1, 9);
        holds(two, "pages = 1", true);
    }

    /** "thirds: how many persons", heard or not. */
    static void promise13KnowsTheLeastAndTheMostThirds() {
        Desk desk = Desk.withText(1);
        desk.black(0, 0, 0, 6);
        holds(desk, "thirds", false);
        for (int person = 0; person < 8; person++) {
            desk.third(0, person, true);
        }
        desk.heard(0);
        desk.heard(7);
        holds(desk, "thirds = 8", true);
    }

    /** What holds is as things are now, not as they were when the rules were read. */
    static void promise13HoldsAsThingsAreNow() {
        Desk desk = desk();
        desk.rulesOf("ground 6 when pages = 3; ground 6 when age = 10; ground 5 when 1; ground 6 when thirds = 4;");
        CHECK.same("none holds", desk.read(0, 3), 0);
        desk.pageOf(0, 9);
        CHECK.same("a third page", desk.read(0, 3), 1);
        desk.pageOf(0, 9);
        CHECK.same("a fourth page", desk.read(0, 3), 0);
        desk.days(2);
        CHECK.same("two days", desk.read(0, 3), 1);
        desk.days(1);
        CHECK.same("three days", desk.read(0, 3), 0);
        desk.third(0, 0, true);
        CHECK.same("a fourth person", desk.read(0, 3), 1);
    }

    /** "any line for it": also the first or the last of sixteen alone. */
    static void promise13HoldsByAnyLine() {
        Desk desk = desk();
        for (int holding = 0; holding < 16; holding++) {
            StringBuilder text = new StringBuilder();
            for (int line = 0; line < 16; line++) {
                text.append("ground 6 when ").append(line == holding ? 1 : 0).append(";");
            }
            CHECK.same("rules()", desk.rulesOf(text.toString()), 0);
            CHECK.same("by line " + holding, desk.read(0, 3), 1);
        }
        desk.rulesOf("ground 6 when 0;".repeat(16));
        CHECK.same("by none", desk.read(0, 3), 0);
        desk.rulesOf("ground 6 when 1; ground 6 when 0; ground 6 when 1;");
        CHECK.same("by two", desk.read(0, 3), 1);
    }

    /** Each ground has its own lines: a line for one lets no other hold. */
    static void promise13KeepsGroundsApart() {
        for (int ground = 0; ground <= 9; ground++) {
            Desk desk = Desk.withPapers(10);
            for (int text = 0; text <= 9; text++) {
                desk.black(text, 0, 0, text);
            }
            desk.rulesOf("ground " + ground + " when 1;");
            for (int page = 0; page <= 9; page++) {
                CHECK.same("ground " + page + " of " + ground, desk.read(page, 3), page == ground ? 1 : 0);
            }
        }
    }

    /** A ground without a line does not hold. */
    static void promise13LetsNoGroundHoldWithoutLines() {
        Desk desk = Desk.withPapers(10);
        for (int text = 0; text <= 9; text++) {
            desk.black(text, 0, 0, text);
            CHECK.same("ground " + text, desk.read(text, 3), 0);
        }
    }
}
