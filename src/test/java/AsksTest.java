/** Promises 14 to 19: asks, narrowing, stops, due days, and the papers that fit. */
public final class AsksTest {
    private static final Checks CHECK = new Checks();

    public static void main(String[] args) {
        ask();
        askLimits();
        repeats();
        narrow();
        stop();
        due();
        dueWithStops();
        dueAtTheEnd();
        found();
        foundDeepDown();
        foundWords();
        finds();
        CHECK.end();
    }

    private static void ask() {
        CHECK.part("promise 14");
        PapersDesk desk = new PapersDesk();
        desk.days(3);
        Checks.tell(desk, 1, 2, 3, 4);
        CHECK.same("folder 1", desk.ask(1, 0, 5), -1);
        CHECK.same("folder -1", desk.ask(-1, 0, 5), -1);
        CHECK.same("from -1", desk.ask(0, -1, 5), -1);
        CHECK.same("to 5000", desk.ask(0, 0, 5000), -1);
        CHECK.same("from above to", desk.ask(0, 6, 5), -1);
        CHECK.same("both above", desk.ask(0, 5000, 5000), -1);
        CHECK.same("what is told stays", desk.count(10), 4);
        CHECK.same("four words", desk.ask(0, 0, 4999), 0);
        CHECK.same("none is told then", desk.count(10), 0);
        CHECK.same("look(0, 6)", desk.look(0, 6), 4);
        CHECK.same("look(0, 0)", desk.look(0, 0), 3);
        CHECK.same("no word, one day", desk.ask(0, 4999, 4999), 1);
        CHECK.same("look(1, 6)", desk.look(1, 6), 0);
        Checks.tell(desk, 1, 2, 3, 4, 5);
        CHECK.same("five words", desk.ask(0, 0, 5), -1);
        CHECK.same("they stay", desk.count(10), 5);
        CHECK.same("count(5)", desk.count(5), 2);
    }

    private static void askLimits() {
        CHECK.part("promise 14, limits");
        PapersDesk desk = new PapersDesk();
        for (int i = 0; i < 20; i++) {
            CHECK.same("ask", desk.ask(0, i, i), i);
        }
        Checks.tell(desk, 1);
        CHECK.same("a 21st", desk.ask(0, 50, 50), -1);
        CHECK.same("count(10)", desk.count(10), 1);
        CHECK.same("count(5)", desk.count(5), 20);
    }

    private static void repeats() {
        CHECK.part("terms, repeats");
        PapersDesk desk = new PapersDesk();
        desk.folder(0);
        int[] due = {-1, -1, -1, -1, 0, -1, -1, -1, 6, -1, -1, 9};
        Checks.ask(desk, 0, 2, 5);
        Checks.ask(desk, 1, 2, 5);
        Checks.ask(desk, 0, 1, 5);
        Checks.ask(desk, 0, 2, 6);
        Checks.ask(desk, 0, 2, 5);
        Checks.ask(desk, 0, 2, 5, 7);
        Checks.ask(desk, 0, 2, 5, 7, 8);
        Checks.ask(desk, 0, 2, 5, 7, 8, 9);
        Checks.ask(desk, 0, 2, 5, 8, 8, 7, 7);
        Checks.ask(desk, 1, 2, 5, 8, 8, 7, 7);
        Checks.ask(desk, 1, 2, 5, 8, 7, 6);
        Checks.ask(desk, 1, 2, 5, 7, 8);
        for (int i = 0; i < due.length; i++) {
            CHECK.same("look(" + i + ", 4)", desk.look(i, 4), due[i]);
        }
        desk.narrow(0, 30);
        CHECK.same("what came before stays", desk.look(4, 4), 0);
        CHECK.same("the next one without words", Checks.ask(desk, 0, 2, 5), 12);
        CHECK.same("repeats what still has none", desk.look(12, 4), 4);
        CHECK.same("the next one with word 30", Checks.ask(desk, 0, 2, 5, 30), 13);
        CHECK.same("repeats the narrowed one", desk.look(13, 4), 0);
        desk.narrow(2, 31);
        desk.narrow(2, 32);
        Checks.ask(desk, 0, 1, 5, 32, 31);
        CHECK.same("narrowed twice", desk.look(14, 4), 2);
    }

    private static void narrow() {
        CHECK.part("promise 15");
        PapersDesk desk = new PapersDesk();
        Checks.paper(desk, 0, 0, 1, 2, 3);
        Checks.paper(desk, 0, 0, 1, 2);
        Checks.paper(desk, 0, 0, 1);
        Checks.ask(desk, 0, 0, 0);
        Checks.ask(desk, 0, 0, 0, 5, 5, 5, 5);
        CHECK.same("ask 2", desk.narrow(2, 1), -1);
        CHECK.same("ask -1", desk.narrow(-1, 1), -1);
        CHECK.same("word 0", desk.narrow(0, 0), -1);
        CHECK.same("word 100", desk.narrow(0, 100), -1);
        CHECK.same("it has 4", desk.narrow(1, 6), -1);
        CHECK.same("look(0, 6)", desk.look(0, 6), 0);
        CHECK.same("word 1", desk.narrow(0, 1), 0);
        CHECK.same("word 1 again", desk.narrow(0, 1), -1);
        CHECK.same("word 2", desk.narrow(0, 2), 1);
        CHECK.same("found(0)", desk.found(0), 2);
        CHECK.same("word 99", desk.narrow(0, 99), 2);
        CHECK.same("word 3", desk.narrow(0, 3), 0);
        CHECK.same("look(0, 6)", desk.look(0, 6), 4);
        CHECK.same("a fifth", desk.narrow(0, 4), -1);
    }

    private static void stop() {
        CHECK.part("promise 16");
        PapersDesk desk = new PapersDesk();
        CHECK.no("no ask", desk.stop(0, true));
        desk.ask(0, 0, 0);
        desk.ask(0, 0, 1);
        CHECK.no("stop(2, true)", desk.stop(2, true));
        CHECK.no("stop(-1, true)", desk.stop(-1, true));
        CHECK.no("it goes on", desk.stop(0, false));
        CHECK.yes("stop(0, true)", desk.stop(0, true));
        CHECK.same("look(0, 5)", desk.look(0, 5), 1);
        CHECK.same("look(1, 5)", desk.look(1, 5), 0);
        CHECK.no("it is stopped", desk.stop(0, true));
        CHECK.yes("stop(0, false)", desk.stop(0, false));
        CHECK.same("look(0, 5)", desk.look(0, 5), 0);
        CHECK.no("it goes on", desk.stop(0, false));
    }

    private static void due() {
        CHECK.part("promise 17");
        PapersDesk desk = new PapersDesk();
        CHECK.same("no ask", desk.due(0), -1);
        int[] due = {28, 29, 30, 31, 32, 32, 32, 35};
        for (int day = 0; day < due.length; day++) {
            int ask = desk.ask(0, 0, 0);
            CHECK.same("due of day " + day, desk.due(ask), due[day]);
            desk.days(1);
        }
        desk.days(100);
        CHECK.same("due(0) later", desk.due(0), 28);
        CHECK.same("due(-1)", desk.due(-1), -1);
        CHECK.same("due(8)", desk.due(8), -1);
    }

    private static int[] stopped(int ask, PapersDesk desk, int from, int to) {
        desk.days(from - desk.count(7));
        desk.stop(ask, true);
        int within = desk.due(ask);
        desk.days(to - from);
        int then = desk.due(ask);
        desk.stop(ask, false);
        return new int[] {within, then, desk.due(ask)};
    }

    private static void dueWithStops() {
        CHECK.part("promise 17, stops");
        int[][] stops = {{0, 0, 28}, {0, 1, 28}, {0, 2, 29}, {5, 7, 28}, {4, 5, 29}, {10, 14, 30}, {28, 28, 28},
            {28, 29, 29}, {28, 33, 35}, {29, 90, 28}, {1, 29, 56}, {27, 28, 28}, {27, 29, 29}};
        for (int[] run : stops) {
            PapersDesk desk = new PapersDesk();
            desk.ask(0, 0, 0);
            int[] got = stopped(0, desk, run[0], run[1]);
            String told = "stopped from " + run[0] + " to " + run[1];
            CHECK.same(told + ", at once", got[0], -1);
            CHECK.same(told + ", then", got[1], -1);
            CHECK.same(told + ", going on", got[2], run[2]);
        }
        PapersDesk desk = new PapersDesk();
        desk.ask(0, 0, 0);
        CHECK.same("first", stopped(0, desk, 2, 4)[2], 30);
        CHECK.same("at the day of going on", stopped(0, desk, 4, 4)[2], 30);
        CHECK.same("from the day of going on", stopped(0, desk, 4, 8)[2], 32);
        CHECK.same("once more", stopped(0, desk, 30, 31)[2], 35);
        CHECK.same("behind the due day", stopped(0, desk, 36, 50)[2], 35);
        CHECK.same("far behind it", stopped(0, desk, 400, 500)[2], 35);
    }

    private static PapersDesk deskOn(int day) {
        PapersDesk desk = new PapersDesk();
        for (int i = 0; i < 10; i++) {
            desk.days(Math.min(500, day - desk.count(7)));
        }
        return desk;
    }

    private static void dueAtTheEnd() {
        CHECK.part("promise 17, the last day");
        // 4999 is 1 modulo 7, a working day.
        PapersDesk desk = deskOn(4971);
        desk.ask(0, 0, 0);
        CHECK.same("just there", desk.due(0), 4999);
        desk.days(1);
        desk.ask(0, 0, 0);
        CHECK.same("beyond", desk.due(1), 4999);
        desk.stop(0, true);
        desk.days(27);
        desk.stop(0, false);
        CHECK.same("stopped", desk.due(0), 4999);
        desk.ask(0, 0, 0);
        CHECK.same("on the last day", desk.due(2), 4999);
        CHECK.same("not late", desk.look(2, 7), 0);
        PapersDesk before = deskOn(4970);
        before.ask(0, 0, 0);
        CHECK.same("a day before", before.due(0), 4998);
    }

    private static void found() {
        CHECK.part("promise 18");
        PapersDesk desk = new PapersDesk();
        desk.days(10);
        desk.folder(0);
        desk.folder(1);
        desk.folder(2);
        desk.folder(0);
        desk.folder(4);
        for (int folder = 0; folder < 6; folder++) {
            Checks.paper(desk, folder, 4 + folder % 3, 1);
        }
        CHECK.same("no ask", desk.found(0), -1);
        int[] due = {6, 3, 2, 1, 2, 1};
        for (int folder = 0; folder < 6; folder++) {
            CHECK.same("found in folder " + folder, desk.found(desk.ask(folder, 0, 10)), due[folder]);
        }
        CHECK.same("days 4", desk.found(desk.ask(0, 0, 4)), 2);
        CHECK.same("days 0 to 3", desk.found(desk.ask(0, 0, 3)), 0);
        CHECK.same("days 5 to 5", desk.found(desk.ask(0, 5, 5)), 2);
        CHECK.same("days 6 and on", desk.found(desk.ask(0, 6, 4999)), 2);
        CHECK.same("days 7 and on", desk.found(desk.ask(0, 7, 4999)), 0);
        CHECK.same("found(11)", desk.found(11), -1);
        CHECK.same("found(-1)", desk.found(-1), -1);
        Checks.paper(desk, 5, 0, 1);
        CHECK.same("a new one in folder 5", desk.found(4), 3);
    }

    private static void foundDeepDown() {
        CHECK.part("promise 18, twenty folders within one another");
        PapersDesk desk = new PapersDesk();
        for (int folder = 1; folder < 20; folder++) {
            desk.folder(folder - 1);
        }
        Checks.paper(desk, 19, 0, 1);
        CHECK.same("from the outermost", desk.found(desk.ask(0, 0, 0)), 1);
        CHECK.same("from the innermost", desk.found(desk.ask(19, 0, 0)), 1);
        Checks.paper(desk, 0, 0, 1);
        CHECK.same("the outermost's own is not in the next", desk.found(desk.ask(1, 0, 0)), 1);
    }

    private static void foundWords() {
        CHECK.part("promise 18, words");
        PapersDesk desk = new PapersDesk();
        Checks.paper(desk, 0, 0, 1, 2, 1);
        Checks.page(desk, 0, 3);
        Checks.paper(desk, 0, 0, 1, 2, 1);
        int both = Checks.ask(desk, 0, 0, 0, 1, 3);
        int one = Checks.ask(desk, 0, 0, 0, 1);
        CHECK.same("on two pages", desk.found(both), 1);
        CHECK.same("on one", desk.found(one), 2);
        Checks.rules(desk, "ground 1 when pages = 2; ground 2 when 1;");
        desk.black(0, 0, 0, 1);
        CHECK.same("the first 1 is black", desk.found(one), 2);
        desk.black(0, 2, 2, 1);
        CHECK.same("both are, on the first paper", desk.found(one), 1);
        CHECK.same("finds(one, 0)", desk.finds(one, 0), 1);
        CHECK.same("found(both)", desk.found(both), 0);
        Checks.page(desk, 0, 1);
        CHECK.same("a page more", desk.found(both), 1);
        desk.black(0, 0, 2, 2);
        CHECK.same("the second paper, too", desk.found(one), 1);
        CHECK.same("finds(one, 0)", desk.finds(one, 0), 0);
    }

    private static void finds() {
        CHECK.part("promise 19");
        PapersDesk desk = new PapersDesk();
        for (int i = 0; i < 6; i++) {
            Checks.paper(desk, 0, 0, 1 + i % 2);
        }
        Checks.ask(desk, 0, 0, 0, 2);
        CHECK.same("finds(0, 0)", desk.finds(0, 0), 1);
        CHECK.same("finds(0, 1)", desk.finds(0, 1), 3);
        CHECK.same("finds(0, 2)", desk.finds(0, 2), 5);
        CHECK.same("finds(0, 3)", desk.finds(0, 3), -1);
        CHECK.same("finds(0, 6)", desk.finds(0, 6), -1);
        CHECK.same("finds(0, -1)", desk.finds(0, -1), -1);
        CHECK.same("finds(0, MAX)", desk.finds(0, Integer.MAX_VALUE), -1);
        CHECK.same("finds(1, 0)", desk.finds(1, 0), -1);
        CHECK.same("finds(-1, 0)", desk.finds(-1, 0), -1);
    }
}
