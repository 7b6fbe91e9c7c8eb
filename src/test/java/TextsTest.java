/** Promises 9 to 11 and 23: texts judged, blackened and cleared, and pages read. */
public final class TextsTest {
    private static final Checks CHECK = new Checks();

    public static void main(String[] args) {
        judge();
        black();
        clear();
        read();
        spansByPaper();
        CHECK.end();
    }

    private static PapersDesk deskWithWords(int... words) {
        PapersDesk desk = new PapersDesk();
        Checks.paper(desk, 0, 0, words);
        return desk;
    }

    private static void judge() {
        CHECK.part("promise 9");
        PapersDesk desk = new PapersDesk();
        CHECK.no("judge(0, true) without texts", desk.judge(0, true));
        Checks.paper(desk, 0, 0, 1);
        CHECK.no("judge(1, true)", desk.judge(1, true));
        CHECK.no("judge(-1, true)", desk.judge(-1, true));
        CHECK.yes("judge(0, true)", desk.judge(0, true));
        CHECK.yes("again", desk.judge(0, true));
        CHECK.same("count(4)", desk.count(4), 1);
        CHECK.yes("judge(0, false)", desk.judge(0, false));
        CHECK.yes("again", desk.judge(0, false));
        CHECK.same("count(4)", desk.count(4), 0);
        desk.judge(0, true);
        Checks.paper(desk, 0, 0, 1);
        CHECK.same("a page of a judged text", desk.count(4), 1);
    }

    private static void black() {
        CHECK.part("promise 10");
        PapersDesk desk = deskWithWords(1, 2, 3);
        CHECK.same("text 1", desk.black(1, 0, 0, 0), -1);
        CHECK.same("text -1", desk.black(-1, 0, 0, 0), -1);
        CHECK.same("to 3", desk.black(0, 0, 3, 0), -1);
        CHECK.same("from -1", desk.black(0, -1, 1, 0), -1);
        CHECK.same("from above to", desk.black(0, 2, 1, 0), -1);
        CHECK.same("ground -1", desk.black(0, 0, 0, -1), -1);
        CHECK.same("ground 10", desk.black(0, 0, 0, 10), -1);
        CHECK.same("the first place, ground 0", desk.black(0, 0, 0, 0), 1);
        CHECK.same("the last place, ground 9", desk.black(0, 2, 2, 9), 2);
        CHECK.same("all places", desk.black(0, 0, 2, 5), 3);
        CHECK.same("the same once more", desk.black(0, 0, 2, 5), 4);
        CHECK.same("a fifth", desk.black(0, 0, 0, 0), -1);
        desk.clear(0, 2);
        CHECK.same("a fourth again", desk.black(0, 1, 1, 1), 4);
    }

    private static void clear() {
        CHECK.part("promise 11");
        PapersDesk desk = deskWithWords(1, 2, 3, 4);
        Checks.rules(desk, "ground 1 when 1;");
        CHECK.no("none is there", desk.clear(0, 0));
        for (int place = 0; place < 4; place++) {
            desk.black(0, place, place, 1);
        }
        clearWithGrounds();
        CHECK.no("text 1", desk.clear(1, 0));
        CHECK.no("text -1", desk.clear(-1, 0));
        CHECK.no("span 4", desk.clear(0, 4));
        CHECK.no("span -1", desk.clear(0, -1));
        CHECK.yes("span 1", desk.clear(0, 1));
        shown(desk, 0, 0, 2, 0, 0);
        CHECK.yes("span 1, which was 2", desk.clear(0, 1));
        shown(desk, 0, 0, 2, 3, 0);
        CHECK.no("span 2", desk.clear(0, 2));
        CHECK.yes("span 1, which was 3", desk.clear(0, 1));
        shown(desk, 0, 0, 2, 3, 4);
        CHECK.yes("span 0", desk.clear(0, 0));
        shown(desk, 0, 1, 2, 3, 4);
        CHECK.no("none is there", desk.clear(0, 0));
    }

    private static void clearWithGrounds() {
        PapersDesk desk = deskWithWords(1, 2, 3);
        Checks.rules(desk, "ground 2 when 1;");
        desk.black(0, 0, 0, 1);
        desk.black(0, 1, 1, 2);
        desk.black(0, 2, 2, 3);
        shown(desk, 0, 1, 0, 3);
        CHECK.yes("the span of ground 1", desk.clear(0, 0));
        shown(desk, 0, 1, 0, 3);
        CHECK.yes("the span of ground 2", desk.clear(0, 0));
        shown(desk, 0, 1, 2, 3);
    }

    private static void shown(PapersDesk desk, int page, int... words) {
        int black = 0;
        for (int i = 0; i < words.length; i++) {
            CHECK.same("read(" + page + ", " + (4 + i) + ")", desk.read(page, 4 + i), words[i]);
            black += words[i] == 0 ? 1 : 0;
        }
        CHECK.same("read(" + page + ", 3)", desk.read(page, 3), black);
    }

    private static void read() {
        CHECK.part("promise 23");
        PapersDesk desk = deskWithWords(1, 2);
        Checks.paper(desk, 0, 0, 5, 6, 7, 8, 9, 10, 11, 12, 13, 14, 15, 16);
        Checks.page(desk, 0, 1, 2);
        CHECK.same("paper", desk.read(1, 0), 1);
        CHECK.same("paper", desk.read(2, 0), 0);
        CHECK.same("text", desk.read(1, 1), 1);
        CHECK.same("text", desk.read(2, 1), 0);
        CHECK.same("words", desk.read(1, 2), 12);
        CHECK.same("words", desk.read(2, 2), 2);
        CHECK.same("black", desk.read(1, 3), 0);
        CHECK.same("last word", desk.read(1, 15), 16);
        CHECK.same("what 16", desk.read(1, 16), -1);
        CHECK.same("what -1", desk.read(1, -1), -1);
        CHECK.same("what MIN", desk.read(1, Integer.MIN_VALUE), -1);
        CHECK.same("what MAX", desk.read(1, Integer.MAX_VALUE), -1);
        CHECK.same("behind the words", desk.read(0, 6), -1);
        CHECK.same("page 3", desk.read(3, 0), -1);
        CHECK.same("page -1", desk.read(-1, 0), -1);
    }

    private static void spansByPaper() {
        CHECK.part("terms, black");
        PapersDesk desk = new PapersDesk();
        desk.folder(0);
        Checks.paper(desk, 0, 0, 1, 2, 3, 4);
        Checks.paper(desk, 1, 0, 1, 2, 3, 4);
        desk.black(0, 1, 2, 7);
        desk.black(0, 2, 3, 8);
        shown(desk, 0, 1, 2, 3, 4);
        Checks.rules(desk, "ground 7 when folder = 1; ground 8 when folder = 0; ground 7 when age = 2;");
        shown(desk, 0, 1, 2, 0, 0);
        shown(desk, 1, 1, 0, 0, 4);
        desk.days(2);
        shown(desk, 0, 1, 0, 0, 0);
        shown(desk, 1, 1, 0, 0, 4);
        Checks.rules(desk, "");
        shown(desk, 0, 1, 2, 3, 4);
    }
}
