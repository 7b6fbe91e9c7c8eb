/** Promises 20 to 22: parts of answers, what was given, and looks at an ask. */
public final class AnswersTest {
    private static final Checks CHECK = new Checks();

    public static void main(String[] args) {
        answer();
        eachTextOnce();
        leftForLater();
        orderOfNumbers();
        repeatedFirst();
        repeatedOnlyDirectly();
        mostGiven();
        given();
        look();
        lookLeft();
        lookLate();
        CHECK.end();
    }

    private static void judgeAll(PapersDesk desk) {
        for (int text = 0; text < desk.count(3); text++) {
            desk.judge(text, true);
        }
    }

    private static void gave(PapersDesk desk, int from, int... pages) {
        CHECK.same("count(6)", desk.count(6), from + pages.length);
        for (int i = 0; i < pages.length; i++) {
            CHECK.same("given(" + (from + i) + ", 1)", desk.given(from + i, 1), pages[i]);
        }
    }

    private static void answer() {
        CHECK.part("promise 20");
        PapersDesk desk = new PapersDesk();
        desk.folder(0);
        for (int i = 0; i < 60; i++) {
            if (i < 2) {
                Checks.paper(desk, i, 0, 1 + i);
            } else {
                Checks.page(desk, i % 2, 1 + i);
            }
        }
        judgeAll(desk);
        desk.ask(0, 0, 0);
        desk.ask(1, 0, 0);
        CHECK.same("ask 2", desk.answer(2, 5), -1);
        CHECK.same("ask -1", desk.answer(-1, 5), -1);
        CHECK.same("n 0", desk.answer(0, 0), -1);
        CHECK.same("n 51", desk.answer(0, 51), -1);
        CHECK.same("n -1", desk.answer(0, -1), -1);
        CHECK.same("none yet", desk.count(6), 0);
        CHECK.same("n 1", desk.answer(1, 1), 1);
        CHECK.same("n 2", desk.answer(1, 2), 2);
        gave(desk, 0, 1, 3, 5);
        CHECK.same("n 50", desk.answer(0, 50), 50);
        CHECK.same("the rest", desk.answer(0, 50), 10);
        CHECK.same("nothing more", desk.answer(0, 50), 0);
        desk.stop(1, true);
        CHECK.same("while it is stopped", desk.answer(1, 50), 27);
    }

    private static void eachTextOnce() {
        CHECK.part("promise 20, each text once");
        PapersDesk desk = new PapersDesk();
        Checks.paper(desk, 0, 0, 1);
        Checks.page(desk, 0, 1);
        Checks.paper(desk, 0, 0, 1);
        Checks.page(desk, 1, 2);
        judgeAll(desk);
        desk.ask(0, 0, 0);
        CHECK.same("answer(0, 9)", desk.answer(0, 9), 2);
        gave(desk, 0, 0, 3);
        Checks.paper(desk, 0, 0, 2);
        CHECK.same("a page of a text that was given", desk.answer(0, 9), 0);
        CHECK.same("look(0, 2)", desk.look(0, 2), 0);
        desk.ask(0, 0, 1);
        CHECK.same("for another ask", desk.answer(1, 9), 2);
    }

    private static void leftForLater() {
        CHECK.part("promise 20, left for later");
        PapersDesk desk = new PapersDesk();
        Checks.paper(desk, 0, 0, 1);
        Checks.paper(desk, 0, 0, 2);
        Checks.paper(desk, 0, 0, 3);
        Checks.page(desk, 0, 3);
        desk.ask(0, 0, 0);
        CHECK.same("nothing is judged", desk.answer(0, 9), 0);
        judgeAll(desk);
        desk.judge(1, false);
        desk.third(0, 3, true);
        desk.third(0, 5, true);
        CHECK.same("text 2 on paper 2", desk.answer(0, 9), 1);
        gave(desk, 0, 2);
        desk.heard(3);
        CHECK.same("one of two was heard", desk.answer(0, 9), 0);
        desk.heard(5);
        CHECK.same("both were", desk.answer(0, 9), 1);
        gave(desk, 1, 0);
        desk.third(1, 0, true);
        desk.judge(1, true);
        CHECK.same("a third not heard", desk.answer(0, 9), 0);
        desk.third(1, 0, false);
        CHECK.same("no third any more", desk.answer(0, 9), 1);
        gave(desk, 2, 1);
    }

    private static void orderOfNumbers() {
        CHECK.part("promise 20, order");
        PapersDesk desk = new PapersDesk();
        Checks.paper(desk, 0, 0, 1);
        Checks.paper(desk, 0, 0, 2);
        Checks.page(desk, 0, 3);
        Checks.page(desk, 1, 4);
        judgeAll(desk);
        desk.ask(0, 0, 0);
        desk.answer(0, 3);
        gave(desk, 0, 0, 1, 2);
    }

    private static void repeatedFirst() {
        CHECK.part("promise 20, what was given before comes first");
        PapersDesk desk = new PapersDesk();
        for (int i = 0; i < 5; i++) {
            Checks.paper(desk, 0, 0, 1 + i);
        }
        desk.judge(2, true);
        desk.judge(4, true);
        desk.ask(0, 0, 0);
        desk.answer(0, 9);
        gave(desk, 0, 2, 4);
        judgeAll(desk);
        desk.ask(0, 0, 0);
        CHECK.same("answer(1, 4)", desk.answer(1, 4), 4);
        gave(desk, 2, 2, 4, 0, 1);
        desk.ask(0, 0, 0);
        desk.judge(2, false);
        CHECK.same("answer(2, 2)", desk.answer(2, 2), 2);
        gave(desk, 6, 4, 0);
        CHECK.same("given for ask 0 meanwhile", desk.answer(0, 1), 1);
        gave(desk, 8, 0);
        desk.answer(0, 2);
        gave(desk, 9, 1, 3);
        desk.judge(2, true);
        CHECK.same("answer(2, 9)", desk.answer(2, 9), 3);
        gave(desk, 11, 1, 2, 3);
    }

    private static void repeatedOnlyDirectly() {
        CHECK.part("promise 20, only what it repeats");
        PapersDesk desk = new PapersDesk();
        for (int i = 0; i < 3; i++) {
            Checks.paper(desk, 0, 0, 1 + i);
        }
        desk.ask(0, 0, 0);
        desk.ask(0, 0, 0);
        desk.ask(0, 0, 0);
        desk.judge(2, true);
        desk.answer(1, 9);
        gave(desk, 0, 2);
        judgeAll(desk);
        desk.answer(2, 9);
        gave(desk, 1, 0, 1, 2);
        PapersDesk other = new PapersDesk();
        Checks.paper(other, 0, 0, 1);
        Checks.paper(other, 0, 0, 2);
        other.judge(1, true);
        other.ask(0, 0, 0);
        other.answer(0, 9);
        other.judge(0, true);
        other.ask(0, 0, 1);
        other.answer(1, 9);
        gave(other, 1, 0, 1);
    }

    private static void mostGiven() {
        CHECK.part("promise 20, 300 at most");
        PapersDesk desk = new PapersDesk();
        Checks.paper(desk, 0, 0, 1);
        for (int i = 1; i < 70; i++) {
            Checks.page(desk, 0, 1 + i);
        }
        judgeAll(desk);
        for (int ask = 0; ask < 6; ask++) {
            desk.ask(0, 0, ask);
        }
        for (int ask = 0; ask < 4; ask++) {
            CHECK.same("50 of ask " + ask, desk.answer(ask, 50), 50);
            CHECK.same("20 of ask " + ask, desk.answer(ask, 50), 20);
        }
        CHECK.same("up to 299", desk.answer(4, 19), 19);
        CHECK.same("the 300th", desk.answer(5, 50), 1);
        CHECK.same("none more", desk.answer(5, 50), 0);
        CHECK.same("count(6)", desk.count(6), 300);
        CHECK.same("given(299, 0)", desk.given(299, 0), 5);
        CHECK.same("given(299, 1)", desk.given(299, 1), 0);
        CHECK.same("given(300, 0)", desk.given(300, 0), -1);
        CHECK.same("look(5, 1)", desk.look(5, 1), 1);
        CHECK.same("look(5, 2)", desk.look(5, 2), 69);
    }

    private static void given() {
        CHECK.part("promise 21");
        PapersDesk desk = new PapersDesk();
        Checks.paper(desk, 0, 0, 7, 8, 9);
        Checks.paper(desk, 0, 0, 1, 2, 3, 4, 5, 6, 7, 8, 9, 10, 11, 12);
        judgeAll(desk);
        desk.black(0, 1, 2, 1);
        Checks.rules(desk, "ground 1 when age < 3;");
        desk.ask(0, 0, 0);
        desk.ask(0, 0, 1);
        desk.days(2);
        desk.answer(1, 1);
        desk.days(2);
        desk.clear(0, 0);
        desk.answer(0, 1);
        desk.answer(1, 1);
        int[][] due = {{1, 0, 2, 2, 7, 0, 0, -1}, {0, 0, 4, 0, 7, 8, 9, -1}, {1, 1, 4, 0, 1, 2, 3, 4}};
        for (int i = 0; i < due.length; i++) {
            for (int what = 0; what < due[i].length; what++) {
                CHECK.same("given(" + i + ", " + what + ")", desk.given(i, what), due[i][what]);
            }
        }
        CHECK.same("the last word", desk.given(2, 15), 12);
        CHECK.same("what 16", desk.given(2, 16), -1);
        CHECK.same("what -1", desk.given(2, -1), -1);
        CHECK.same("what MIN", desk.given(2, Integer.MIN_VALUE), -1);
        CHECK.same("given(3, 0)", desk.given(3, 0), -1);
        CHECK.same("given(-1, 0)", desk.given(-1, 0), -1);
    }

    private static void look() {
        CHECK.part("promise 22");
        PapersDesk desk = new PapersDesk();
        desk.days(4);
        Checks.paper(desk, 0, 0, 1);
        Checks.page(desk, 0, 2);
        Checks.page(desk, 0, 2);
        Checks.page(desk, 0, 3);
        desk.judge(0, true);
        desk.judge(2, true);
        Checks.ask(desk, 0, 0, 9, 1);
        desk.days(3);
        Checks.ask(desk, 0, 0, 9, 1, 1);
        desk.answer(1, 1);
        desk.stop(1, true);
        int[][] due = {{4, 0, 3, 1, -1, 0, 1, 0}, {7, 1, 2, 1, 0, 1, 2, 0}};
        for (int ask = 0; ask < due.length; ask++) {
            for (int what = 0; what < due[ask].length; what++) {
                CHECK.same("look(" + ask + ", " + what + ")", desk.look(ask, what), due[ask][what]);
            }
        }
        CHECK.lookThrows(desk, 2, 0);
        CHECK.lookThrows(desk, -1, 0);
        CHECK.lookThrows(desk, 0, 8);
        CHECK.lookThrows(desk, 0, -1);
        CHECK.lookThrows(desk, Integer.MAX_VALUE, Integer.MAX_VALUE);
    }

    private static void lookLeft() {
        CHECK.part("promise 22, left");
        PapersDesk desk = new PapersDesk();
        Checks.paper(desk, 0, 0, 1);
        Checks.paper(desk, 0, 0, 1);
        Checks.paper(desk, 0, 0, 1, 2);
        desk.ask(0, 0, 0);
        desk.third(1, 0, true);
        CHECK.same("two texts", desk.look(0, 2), 2);
        CHECK.same("none judged", desk.look(0, 3), 2);
        desk.judge(0, true);
        CHECK.same("look(0, 2)", desk.look(0, 2), 2);
        CHECK.same("look(0, 3)", desk.look(0, 3), 1);
        desk.third(0, 0, true);
        CHECK.same("not heard, so left", desk.answer(0, 9), 0);
        CHECK.same("look(0, 2)", desk.look(0, 2), 2);
        desk.narrow(0, 2);
        CHECK.same("narrowed", desk.look(0, 2), 1);
        CHECK.same("look(0, 3)", desk.look(0, 3), 1);
        desk.judge(1, true);
        desk.answer(0, 9);
        CHECK.same("all given", desk.look(0, 2), 0);
        desk.judge(1, false);
        CHECK.same("what was given is not left", desk.look(0, 3), 0);
        Checks.page(desk, 2, 5);
        CHECK.same("a page comes", desk.look(0, 2), 1);
    }

    private static void lookLate() {
        CHECK.part("promise 22, late");
        PapersDesk desk = new PapersDesk();
        Checks.paper(desk, 0, 0, 1);
        desk.ask(0, 0, 0);
        desk.days(28);
        CHECK.same("on the due day", desk.look(0, 7), 0);
        desk.days(1);
        CHECK.same("a day behind", desk.look(0, 7), 1);
        desk.stop(0, true);
        CHECK.same("stopped", desk.look(0, 7), 0);
        desk.stop(0, false);
        CHECK.same("going on", desk.look(0, 7), 1);
        desk.judge(0, true);
        desk.answer(0, 1);
        CHECK.same("nothing left", desk.look(0, 7), 0);
        Checks.page(desk, 0, 2);
        CHECK.same("a page more", desk.look(0, 7), 1);
    }
}
