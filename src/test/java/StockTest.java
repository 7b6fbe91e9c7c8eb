/** Promises 1 to 8 and 24: days, folders, words, papers, pages, persons, and what is counted. */
public final class StockTest {
    private static final Checks CHECK = new Checks();

    public static void main(String[] args) {
        newObject();
        days();
        folder();
        word();
        paper();
        paperLimits();
        page();
        pageLimits();
        texts();
        third();
        heard();
        count();
        CHECK.end();
    }

    private static void newObject() {
        CHECK.part("promise 1");
        PapersDesk desk = new PapersDesk();
        int[] due = {1, 0, 0, 0, 0, 0, 0, 0, 0, 0, 0};
        for (int what = 0; what < due.length; what++) {
            CHECK.same("count(" + what + ")", desk.count(what), due[what]);
        }
        CHECK.same("found(0)", desk.found(0), -1);
        CHECK.same("given(0, 0)", desk.given(0, 0), -1);
        CHECK.same("read(0, 0)", desk.read(0, 0), -1);
        CHECK.lookThrows(desk, 0, 0);
    }

    private static void days() {
        CHECK.part("promise 2");
        PapersDesk desk = new PapersDesk();
        CHECK.same("days(0)", desk.days(0), 0);
        CHECK.same("days(1)", desk.days(1), 1);
        CHECK.same("days(-1)", desk.days(-1), -1);
        CHECK.same("days(501)", desk.days(501), -1);
        CHECK.same("days(MIN)", desk.days(Integer.MIN_VALUE), -1);
        CHECK.same("days(MAX)", desk.days(Integer.MAX_VALUE), -1);
        CHECK.same("days(500)", desk.days(500), 501);
        for (int i = 0; i < 8; i++) {
            desk.days(500);
        }
        CHECK.same("days(499)", desk.days(499), -1);
        CHECK.same("count(7)", desk.count(7), 4501);
        CHECK.same("days(498)", desk.days(498), 4999);
        CHECK.same("days(1) at the end", desk.days(1), -1);
        CHECK.same("days(0) at the end", desk.days(0), 4999);
    }

    private static void folder() {
        CHECK.part("promise 3");
        PapersDesk desk = new PapersDesk();
        CHECK.same("folder(1)", desk.folder(1), -1);
        CHECK.same("folder(-1)", desk.folder(-1), -1);
        CHECK.same("folder(MIN)", desk.folder(Integer.MIN_VALUE), -1);
        CHECK.same("count(0)", desk.count(0), 1);
        for (int i = 1; i < 20; i++) {
            CHECK.same("folder(" + (i - 1) + ")", desk.folder(i - 1), i);
        }
        CHECK.same("a 21st", desk.folder(0), -1);
        CHECK.same("count(0)", desk.count(0), 20);
    }

    private static void word() {
        CHECK.part("promise 4");
        PapersDesk desk = new PapersDesk();
        CHECK.same("word(0)", desk.word(0), -1);
        CHECK.same("word(100)", desk.word(100), -1);
        CHECK.same("word(-1)", desk.word(-1), -1);
        CHECK.same("word(1)", desk.word(1), 1);
        CHECK.same("word(99)", desk.word(99), 2);
        for (int i = 3; i <= 12; i++) {
            CHECK.same("word(7)", desk.word(7), i);
        }
        CHECK.same("a 13th", desk.word(7), -1);
        CHECK.same("count(10)", desk.count(10), 12);
        CHECK.same("paper(0, 0)", desk.paper(0, 0), 0);
        CHECK.same("read(0, 2)", desk.read(0, 2), 12);
        CHECK.same("read(0, 4)", desk.read(0, 4), 1);
        CHECK.same("read(0, 5)", desk.read(0, 5), 99);
        CHECK.same("read(0, 15)", desk.read(0, 15), 7);
        CHECK.same("word(3)", desk.word(3), 1);
    }

    private static void paper() {
        CHECK.part("promise 5");
        PapersDesk desk = new PapersDesk();
        desk.days(10);
        CHECK.same("no words", desk.paper(0, 0), -1);
        Checks.tell(desk, 4, 5);
        CHECK.same("folder 1", desk.paper(1, 0), -1);
        CHECK.same("folder -1", desk.paper(-1, 0), -1);
        CHECK.same("day 11", desk.paper(0, 11), -1);
        CHECK.same("day -1", desk.paper(0, -1), -1);
        CHECK.same("what is told stays", desk.count(10), 2);
        CHECK.same("day 10", desk.paper(0, 10), 0);
        CHECK.same("none is told then", desk.count(10), 0);
        CHECK.same("again", desk.paper(0, 10), -1);
        CHECK.same("day 0", Checks.paper(desk, 0, 0, 4), 1);
        CHECK.same("count(1)", desk.count(1), 2);
        CHECK.same("count(2)", desk.count(2), 2);
    }

    private static void paperLimits() {
        CHECK.part("promise 5, limits");
        PapersDesk desk = new PapersDesk();
        for (int i = 0; i < 40; i++) {
            CHECK.same("paper", Checks.paper(desk, 0, 0, 1 + i), i);
        }
        CHECK.same("a 41st", Checks.paper(desk, 0, 0, 90), -1);
        CHECK.same("its words stay", desk.count(10), 1);
        CHECK.same("as a page", desk.page(39), 40);

        PapersDesk full = new PapersDesk();
        Checks.paper(full, 0, 0, 1);
        for (int i = 1; i < 119; i++) {
            Checks.page(full, 0, 1);
        }
        CHECK.same("paper with the 120th page", Checks.paper(full, 0, 0, 2), 1);
        CHECK.same("paper with the 121st page", Checks.paper(full, 0, 0, 3), -1);
        CHECK.same("count(1)", full.count(1), 2);
        CHECK.same("count(2)", full.count(2), 120);
        CHECK.same("count(3)", full.count(3), 2);
        CHECK.same("count(10)", full.count(10), 1);
    }

    private static void page() {
        CHECK.part("promise 6");
        PapersDesk desk = new PapersDesk();
        Checks.tell(desk, 1);
        CHECK.same("page(0) without papers", desk.page(0), -1);
        CHECK.same("what is told stays", desk.paper(0, 0), 0);
        CHECK.same("no words", desk.page(0), -1);
        Checks.tell(desk, 2);
        CHECK.same("page(1)", desk.page(1), -1);
        CHECK.same("page(-1)", desk.page(-1), -1);
        CHECK.same("count(10)", desk.count(10), 1);
        CHECK.same("page(0)", desk.page(0), 1);
        CHECK.same("none is told then", desk.count(10), 0);
        Checks.paper(desk, 0, 0, 3);
        CHECK.same("a page of an earlier paper", Checks.page(desk, 0, 4), 3);
        CHECK.same("read(2, 0)", desk.read(2, 0), 1);
        CHECK.same("read(3, 0)", desk.read(3, 0), 0);
    }

    private static void pageLimits() {
        CHECK.part("promise 6, limits");
        PapersDesk desk = new PapersDesk();
        Checks.paper(desk, 0, 0, 1);
        for (int i = 1; i < 120; i++) {
            CHECK.same("page", Checks.page(desk, 0, 1 + i % 99, 1 + i / 99), i);
        }
        CHECK.same("count(3)", desk.count(3), 120);
        CHECK.same("a 121st", Checks.page(desk, 0, 50), -1);
        CHECK.same("its words stay", desk.count(10), 1);
    }

    private static void texts() {
        CHECK.part("terms, texts");
        PapersDesk desk = new PapersDesk();
        desk.folder(0);
        Checks.paper(desk, 0, 0, 1, 2);
        Checks.page(desk, 0, 2, 1);
        Checks.page(desk, 0, 1, 2, 2);
        Checks.page(desk, 0, 1);
        Checks.page(desk, 0, 1, 2);
        Checks.paper(desk, 1, 0, 2, 1);
        int[] due = {0, 1, 2, 3, 0, 1};
        for (int i = 0; i < due.length; i++) {
            CHECK.same("read(" + i + ", 1)", desk.read(i, 1), due[i]);
        }
        CHECK.same("count(3)", desk.count(3), 4);
        int[] twelve = {1, 2, 3, 4, 5, 6, 7, 8, 9, 10, 11, 12};
        Checks.page(desk, 0, twelve);
        Checks.page(desk, 1, twelve);
        twelve[11] = 13;
        Checks.page(desk, 0, twelve);
        CHECK.same("twelve words", desk.read(6, 1), 4);
        CHECK.same("the same twelve", desk.read(7, 1), 4);
        CHECK.same("another last one", desk.read(8, 1), 5);
    }

    private static void third() {
        CHECK.part("promise 7");
        PapersDesk desk = new PapersDesk();
        CHECK.no("no paper", desk.third(0, 0, true));
        Checks.paper(desk, 0, 0, 1);
        CHECK.no("third(1, 0, true)", desk.third(1, 0, true));
        CHECK.no("third(-1, 0, true)", desk.third(-1, 0, true));
        CHECK.no("third(0, 8, true)", desk.third(0, 8, true));
        CHECK.no("third(0, -1, true)", desk.third(0, -1, true));
        CHECK.no("third(0, 32, true)", desk.third(0, 32, true));
        Checks.rules(desk, "ground 1 when thirds = 2;");
        desk.black(0, 0, 0, 1);
        CHECK.yes("person 0", desk.third(0, 0, true));
        CHECK.yes("person 0 again", desk.third(0, 0, true));
        CHECK.same("one of them", desk.read(0, 3), 0);
        CHECK.yes("person 7", desk.third(0, 7, true));
        CHECK.same("two of them", desk.read(0, 3), 1);
        CHECK.yes("not person 3, who was none", desk.third(0, 3, false));
        CHECK.same("two of them", desk.read(0, 3), 1);
        CHECK.yes("not person 0", desk.third(0, 0, false));
        CHECK.same("one of them", desk.read(0, 3), 0);
    }

    private static void heard() {
        CHECK.part("promise 8");
        PapersDesk desk = new PapersDesk();
        CHECK.no("heard(-1)", desk.heard(-1));
        CHECK.no("heard(8)", desk.heard(8));
        CHECK.no("heard(32)", desk.heard(32));
        for (int person = 0; person < 8; person++) {
            CHECK.yes("heard(" + person + ")", desk.heard(person));
            CHECK.no("again", desk.heard(person));
        }
    }

    private static void count() {
        CHECK.part("promise 24");
        PapersDesk desk = new PapersDesk();
        desk.days(9);
        desk.folder(0);
        Checks.paper(desk, 1, 0, 1);
        Checks.paper(desk, 0, 3, 2);
        Checks.page(desk, 0, 1);
        Checks.page(desk, 0, 3);
        Checks.page(desk, 1, 4);
        desk.judge(0, true);
        desk.judge(1, true);
        desk.judge(3, true);
        desk.judge(1, false);
        desk.ask(0, 0, 9);
        desk.ask(1, 0, 9);
        desk.ask(1, 1, 9);
        desk.answer(0, 1);
        Checks.rules(desk, "ground 1 when 1;ground 1 when 0;");
        Checks.feed(desk, "abc");
        Checks.tell(desk, 1, 1, 1, 1, 1, 1);
        int[] due = {2, 2, 5, 4, 2, 3, 1, 9, 2, 3, 6};
        for (int what = 0; what < due.length; what++) {
            CHECK.same("count(" + what + ")", desk.count(what), due[what]);
        }
        CHECK.same("count(11)", desk.count(11), -1);
        CHECK.same("count(-1)", desk.count(-1), -1);
        CHECK.same("count(MIN)", desk.count(Integer.MIN_VALUE), -1);
    }
}
