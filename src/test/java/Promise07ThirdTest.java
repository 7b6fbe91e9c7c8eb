/** Promise 7: A person is a THIRD of a PAPER (yes) or not: true; false: none such. */
public final class Promise07ThirdTest {
    private static final Checks CHECK = new Checks();

    public static void main(String[] args) throws IllegalAccessException {
        CHECK.runAll(Promise07ThirdTest.class);
    }

    /** A desk whose page 0 has a black word if its paper has so many thirds. */
    private static Desk blackAt(int thirds) {
        Desk desk = Desk.withPapers(2);
        desk.rulesOf("ground 1 when thirds = " + thirds + ";");
        desk.black(0, 0, 0, 1);
        return desk;
    }

    /** "a set of persons (0 .. 7)": the least and the most. */
    static void promise07TakesPersonsZeroAndSeven() {
        Desk desk = blackAt(2);
        CHECK.yes("person 0", desk.third(0, 0, true));
        CHECK.same("one", desk.read(0, 3), 0);
        CHECK.yes("person 7", desk.third(0, 7, true));
        CHECK.same("two", desk.read(0, 3), 1);
    }

    static void promise07TakesAllEightPersons() {
        Desk desk = blackAt(8);
        for (int person = 0; person < 8; person++) {
            CHECK.same("before " + person, desk.read(0, 3), 0);
            CHECK.yes("person " + person, desk.third(0, person, true));
        }
        CHECK.same("all", desk.read(0, 3), 1);
    }

    /** "false: none such": the person. */
    static void promise07RefusesPersonsThatAreNotThere() {
        Desk desk = blackAt(0);
        int[] others = {8, 9, 31, 32, 33, 64, Checks.MAX, -1, -8, -31, -32, Checks.MIN};
        CHECK.never("third of person", person -> desk.third(0, person, true), others);
        CHECK.same("no third", desk.read(0, 3), 1);
        for (int person = 0; person < 8; person++) {
            desk.third(0, person, true);
        }
        CHECK.never("no third of person", person -> desk.third(0, person, false), others);
        desk.rulesOf("ground 1 when thirds = 8;");
        CHECK.same("eight thirds", desk.read(0, 3), 1);
    }

    /** "false: none such": the paper. */
    static void promise07RefusesPapersThatAreNotThere() {
        CHECK.no("without papers", new Desk().third(0, 0, true));
        Desk desk = blackAt(0);
        CHECK.never("third of paper", paper -> desk.third(paper, 0, true), 2, 3, 40, Checks.MAX, -1, Checks.MIN);
        CHECK.never("no third of paper", paper -> desk.third(paper, 0, false), 2, -1, Checks.MIN, Checks.MAX);
        CHECK.same("no third", desk.read(0, 3), 1);
    }

    static void promise07TakesTheLastPaper() {
        Desk desk = Desk.withPapers(40);
        CHECK.yes("third(39, 7, true)", desk.third(39, 7, true));
        CHECK.no("third(40, 7, true)", desk.third(40, 7, true));
    }

    /** "a set": one who is in it comes once. */
    static void promise07CountsAPersonOnce() {
        Desk desk = blackAt(1);
        CHECK.yes("person 4", desk.third(0, 4, true));
        CHECK.yes("person 4 again", desk.third(0, 4, true));
        CHECK.same("one", desk.read(0, 3), 1);
        CHECK.yes("no more", desk.third(0, 4, false));
        CHECK.same("none", desk.read(0, 3), 0);
    }

    static void promise07TakesAwayOneWhoIsNone() {
        Desk desk = blackAt(1);
        CHECK.yes("person 3, who is none", desk.third(0, 3, false));
        desk.third(0, 2, true);
        CHECK.yes("person 3, who is none", desk.third(0, 3, false));
        CHECK.same("one", desk.read(0, 3), 1);
    }

    static void promise07TouchesOnePaperAlone() {
        Desk desk = blackAt(1);
        desk.third(1, 5, true);
        CHECK.same("paper 0", desk.read(0, 3), 0);
        desk.third(0, 5, true);
        desk.third(1, 5, false);
        CHECK.same("paper 0", desk.read(0, 3), 1);
    }

    static void promise07RefusedThirdsLeaveAllAsItWas() {
        CHECK.unchanged(desk -> {
            CHECK.never("person", person -> desk.third(0, person, true), 8, -1, 32, Checks.MIN, Checks.MAX);
            CHECK.never("person", person -> desk.third(1, person, false), 8, -1, 34, Checks.MIN, Checks.MAX);
            CHECK.never("paper", paper -> desk.third(paper, 2, false), 2, -1, Checks.MIN, Checks.MAX);
        });
    }
}
