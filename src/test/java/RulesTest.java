/** Promises 12 and 13: the tape, the faults of its text, and what the lines mean. */
public final class RulesTest {
    private static final Checks CHECK = new Checks();

    public static void main(String[] args) {
        feed();
        feedLimits();
        tokens();
        misplaced();
        grounds();
        tooMuch();
        leastKind();
        whatStays();
        values();
        papers();
        CHECK.end();
    }

    private static void feed() {
        CHECK.part("promise 12");
        PapersDesk desk = new PapersDesk();
        CHECK.same("nothing", desk.feed(0, 0, 0), 0);
        CHECK.same("9, 11, 31, 127, 128, 255", desk.feed(0x090B1F7F80FF0000L, 0, 0), 0);
        CHECK.same("10, 32, 126", desk.feed(0x0A00200000007E00L, 0, 0), 3);
        CHECK.same("one from each", desk.feed(0x6100000000000000L, 0x61, 0x610000), 6);
        CHECK.same("count(9)", desk.count(9), 6);
        desk.rules();
        CHECK.same("count(9)", desk.count(9), 0);
        CHECK.same("order", desk.feed(Checks.eight("ground 3", 0), Checks.eight("when 1;x", 0), Checks.eight("y", 0)), 17);
        CHECK.same("rules()", desk.rules(), 1 + 16 * 15);
        CHECK.same("negative bytes", desk.feed(-1, -1, -1), 0);
    }

    private static void feedLimits() {
        CHECK.part("promise 12, limits");
        PapersDesk desk = new PapersDesk();
        for (int i = 0; i < 24; i++) {
            CHECK.same("24 more", Checks.feed(desk, " ".repeat(24)), 24 * i + 24);
        }
        CHECK.same("to 599", Checks.feed(desk, " ".repeat(23)), 599);
        CHECK.same("the 600th", Checks.feed(desk, "  ground"), 600);
        CHECK.same("beyond", Checks.feed(desk, "x"), 600);
        CHECK.same("rules()", desk.rules(), 0);
        Checks.feed(desk, " ".repeat(599) + "x");
        CHECK.same("the last sign", desk.rules(), 1 + 16 * 599);
        Checks.feed(desk, "ground 1 when 1" + " ".repeat(700));
        CHECK.same("the end at 600", desk.rules(), 1 + 16 * 600);
        CHECK.same("as many lines as can be", Checks.rules(desk, "ground 1 when 1;".repeat(16)), 0);
        CHECK.same("as many tokens as can be", Checks.rules(desk, "ground 1 when 1" + "+1".repeat(292) + ";"), 0);
    }

    private static void fault(String text, int due) {
        CHECK.same("rules() of '" + text + "'", Checks.rules(new PapersDesk(), text), due);
    }

    private static void tokens() {
        CHECK.part("promise 13, tokens");
        fault("", 0);
        fault(" \n ", 0);
        fault("ground 1 when 1;", 0);
        fault("\nground\n1\nwhen\n1\n;\n", 0);
        fault("ground1when1;", 0);
        fault("ground 1when 2and 3;", 0);
        fault("ground 1 when 9999;", 0);
        fault("ground 1 when 10000;", 1 + 16 * 14);
        fault("ground 1 when 00001;", 1 + 16 * 14);
        fault("ground 0009 when 0000;", 0);
        fault("ground 00001 when 1;", 1 + 16 * 7);
        fault("ground 1 when thirdss;", 1 + 16 * 14);
        fault("groundground 1 when 1;", 1);
        fault("gro und 1 when 1;", 1);
        fault("Ground 1 when 1;", 1);
        fault("ground 1 when agE;", 1 + 16 * 14);
        fault("ground 1 when age*2;", 1 + 16 * 17);
        fault("ground 1 when 1 <= 2;", 1 + 16 * 17);
        fault("ground 1 when 1 2;", 1 + 16 * 16);
        fault("ground 1 when ageage;", 1 + 16 * 14);
        fault("ground 1 when agez;", 1 + 16 * 14);
        fault("ground 1 when aage;", 1 + 16 * 14);
        fault("ground 1 when tay;", 1 + 16 * 14);
        fault("ground 1 when dax;", 1 + 16 * 14);
        fault("ground 1 when thirdsss;", 1 + 16 * 14);
        fault("ground 1 when thirdssss;", 1 + 16 * 14);
        fault("ground 1 when age1;", 1 + 16 * 17);
        fault("ground 1 when day folder;", 1 + 16 * 18);
        fault("ground 1 when (1)<(2)=(3);", 1 + 16 * 21);
        fault("ground 1 when ((1)<(2))=(3);", 0);
    }

    private static void misplaced() {
        CHECK.part("promise 13, misplaced");
        fault(";", 1);
        fault("  5", 1 + 16 * 2);
        fault("when", 1);
        fault("ground", 1 + 16 * 6);
        fault("ground  ", 1 + 16 * 8);
        fault("ground when", 1 + 16 * 7);
        fault("ground 1", 1 + 16 * 8);
        fault("ground 1 1", 1 + 16 * 9);
        fault("ground 1 when", 1 + 16 * 13);
        fault("ground 1 when ;", 1 + 16 * 14);
        fault("ground 1 when 1", 1 + 16 * 15);
        fault("ground 1 when 1 ground", 1 + 16 * 16);
        fault("ground 1 when 1;;", 1 + 16 * 16);
        fault("ground 1 when 1; 2", 1 + 16 * 17);
        fault("ground 1 when -1;", 1 + 16 * 14);
        fault("ground 1 when 1+;", 1 + 16 * 16);
        fault("ground 1 when 1+-1;", 1 + 16 * 16);
        fault("ground 1 when 1<;", 1 + 16 * 16);
        fault("ground 1 when 1=2=3;", 1 + 16 * 17);
        fault("ground 1 when 1<2<3;", 1 + 16 * 17);
        fault("ground 1 when 1 and;", 1 + 16 * 19);
        fault("ground 1 when and 1;", 1 + 16 * 14);
        fault("ground 1 when ();", 1 + 16 * 15);
        fault("ground 1 when (1;", 1 + 16 * 16);
        fault("ground 1 when 1);", 1 + 16 * 15);
        fault("ground 1 when (1)(1);", 1 + 16 * 17);
        fault("ground 1 when when;", 1 + 16 * 14);
        fault("ground 1 when ground;", 1 + 16 * 14);
    }

    private static void grounds() {
        CHECK.part("promise 13, grounds");
        fault("ground 0 when 1;", 0);
        fault("ground 9 when 1;", 0);
        fault("ground 10 when 1;", 4 + 16 * 7);
        fault("ground 9999", 4 + 16 * 7);
        fault("ground 1 when 10;ground 12 when 1;", 4 + 16 * 24);
    }

    private static void tooMuch() {
        CHECK.part("promise 13, too much");
        String line = "ground 1 when 1;";
        fault(line.repeat(16), 0);
        fault(line.repeat(16) + "  ", 0);
        fault(line.repeat(17), 5 + 16 * 256);
        fault(line.repeat(16) + "  ground", 5 + 16 * 258);
        fault("ground 1 when ((((1))));", 0);
        fault("ground 1 when (((((1)))));", 5 + 16 * 19);
        fault("ground 1 when (((((age)))));", 5 + 16 * 19);
        fault("ground 1 when ((((((1))))));", 5 + 16 * 19);
        fault("ground 1 when ((((1))))+((((1))))and((((1))))<((((1))));", 0);
        fault("ground 1 when ((((1+(", 1 + 16 * 21);
        fault("ground 1 when ((((1+(1", 5 + 16 * 21);
        fault("ground 1 when ((((1<(1", 5 + 16 * 21);
        fault("ground 1 when ((((1 and (1", 5 + 16 * 25);
    }

    private static void leastKind() {
        CHECK.part("promise 13, the least kind of the first wrong token");
        String line = "ground 1 when 1;";
        fault(line.repeat(16) + ";", 1 + 16 * 256);
        fault(line.repeat(16) + "when", 1 + 16 * 256);
        fault(line.repeat(16) + "grounds", 1 + 16 * 256);
        fault(line.repeat(16) + "?", 1 + 16 * 256);
        fault("ground 1 when ((((()))));", 1 + 16 * 19);
        fault("ground 1 when (((((and", 1 + 16 * 19);
        fault("ground 1 when (((((12345", 1 + 16 * 19);
        fault("ground 1 when (((((", 1 + 16 * 19);
        fault("ground 12345 when", 1 + 16 * 7);
        fault("ground 11 when ((((((", 4 + 16 * 7);
    }

    private static void whatStays() {
        CHECK.part("promise 13, what stays");
        PapersDesk desk = new PapersDesk();
        Checks.paper(desk, 0, 0, 5);
        desk.black(0, 0, 0, 1);
        desk.black(0, 0, 0, 2);
        CHECK.same("two lines", Checks.rules(desk, "ground 1 when 1;ground 3 when 1;"), 0);
        CHECK.same("count(8)", desk.count(8), 2);
        CHECK.same("read(0, 3)", desk.read(0, 3), 1);
        CHECK.same("a fault", Checks.rules(desk, "ground 4 when 1; ground 5"), 1 + 16 * 25);
        CHECK.same("the tape is empty", desk.count(9), 0);
        CHECK.same("the lines stay", desk.count(8), 2);
        CHECK.same("and hold", desk.read(0, 3), 1);
        CHECK.same("others", Checks.rules(desk, "ground 3 when 1;"), 0);
        CHECK.same("count(8)", desk.count(8), 1);
        CHECK.same("ground 1 holds no more", desk.read(0, 3), 0);
        CHECK.same("ground 2", Checks.rules(desk, "ground 2 when 1;"), 0);
        CHECK.same("read(0, 3)", desk.read(0, 3), 1);
        CHECK.same("none", desk.rules(), 0);
        CHECK.same("count(8)", desk.count(8), 0);
        CHECK.same("nothing holds", desk.read(0, 3), 0);
    }

    /** A desk at day 20 with a paper of day 12 in folder 3, with two pages and three thirds. */
    private static PapersDesk desk() {
        PapersDesk desk = new PapersDesk();
        desk.days(20);
        desk.folder(0);
        desk.folder(1);
        desk.folder(0);
        Checks.paper(desk, 3, 12, 1);
        Checks.page(desk, 0, 2);
        desk.third(0, 1, true);
        desk.third(0, 4, true);
        desk.third(0, 7, true);
        desk.heard(4);
        desk.black(0, 0, 0, 6);
        return desk;
    }

    private static void holds(String expression, boolean due) {
        PapersDesk desk = desk();
        CHECK.same("rules() for " + expression, Checks.rules(desk, "ground 6 when " + expression + ";"), 0);
        CHECK.same(expression, desk.read(0, 3), due ? 1 : 0);
    }

    private static void values() {
        CHECK.part("promise 13, values");
        holds("0", false);
        holds("7", true);
        holds("1-2", true);
        holds("3-2-1", false);
        holds("3-(2-1)", true);
        holds("1+2-3", false);
        holds("2<1", false);
        holds("1<2", true);
        holds("2<2", false);
        holds("1-2<0", true);
        holds("2=2", true);
        holds("2=3", false);
        holds("1+1=2", true);
        holds("2=1+1", true);
        holds("3-1<1+2", true);
        holds("1 and 0", false);
        holds("0 and 1", false);
        holds("(2 and 4)=1", true);
        holds("(2 and 4)=2", false);
        holds("(0-1 and 2)=1", true);
        holds("1 and 2 and 3", true);
        holds("1 and 0 and 3", false);
        holds("1 and 2 and 0", false);
        holds("1 and 2<1", false);
        holds("1 and 0<1", true);
        holds("(1<2)+(2<3)=2", true);
        holds("9999+9999=9999+9999", true);
        holds("0010=10", true);
        holds("((((5))))=5", true);
        holds("(1<(2<(3<(4-3))))", false);
        holds("0 and (1=1 and (2<2+(3=3 and (4+5=9))))", false);
        holds("1=1 and (0<1+(1 and (2=1+(0<1 and 3=3))))", true);
        String deep = "1 and 1=1+(1 and 1=1+(1 and 1=1+(1 and 1=1+(1 and 1=1+";
        holds(deep + "1))))", false);
        holds(deep + "0))))", true);
    }

    /** Each ground blackens one word of a paper, and only its own. */
    private static void eachGround() {
        for (int ground = 0; ground <= 9; ground++) {
            PapersDesk desk = new PapersDesk();
            for (int paper = 0; paper <= 9; paper++) {
                Checks.paper(desk, 0, 0, 1 + paper);
                desk.black(paper, 0, 0, paper);
            }
            Checks.rules(desk, "ground " + ground + " when 1;");
            for (int paper = 0; paper <= 9; paper++) {
                CHECK.same("ground " + paper + " of " + ground, desk.read(paper, 3), paper == ground ? 1 : 0);
            }
        }
    }

    private static void oneAfterTheOther() {
        PapersDesk desk = desk();
        for (int i = 0; i < 6; i++) {
            int holds = i / 2 % 2;
            Checks.rules(desk, "ground 5 when " + (1 - holds) + "; ground 6 when " + holds + ";");
            CHECK.same("ground 6 when " + holds, desk.read(0, 3), holds);
        }
        Checks.rules(desk, "ground 6 when 0; ground 6 when 1; ground 6 when 0;");
        CHECK.same("any line", desk.read(0, 3), 1);
    }

    private static void papers() {
        CHECK.part("promise 13, what a paper has");
        holds("age=8", true);
        holds("day=12", true);
        holds("folder=3", true);
        holds("pages=2", true);
        holds("thirds=3", true);
        holds("age+day+folder+pages+thirds=28", true);
        holds("folder-thirds", false);
        eachGround();
        oneAfterTheOther();
        PapersDesk desk = desk();
        Checks.rules(desk, "ground 6 when pages = 3; ground 6 when age = 10; ground 5 when 1;");
        CHECK.same("none holds", desk.read(0, 3), 0);
        Checks.page(desk, 0, 9);
        CHECK.same("a third page", desk.read(0, 3), 1);
        Checks.page(desk, 0, 9);
        CHECK.same("a fourth page", desk.read(0, 3), 0);
        desk.days(2);
        CHECK.same("two days", desk.read(0, 3), 1);
        desk.days(1);
        CHECK.same("three days", desk.read(0, 3), 0);
    }
}
