import java.util.ArrayList;
import java.util.List;
import java.util.NoSuchElementException;

/** The desk that the tests use: it counts its calls, because what a 513th one answers is free. */
final class Desk {
    private static final int MOST_CALLS = 512;
    /** What a snapshot writes where look throws. */
    private static final String THROWN = "throws";

    private final PapersDesk desk = new PapersDesk();
    private int calls = 0;

    private PapersDesk called() {
        calls++;
        if (calls > MOST_CALLS) {
            throw new IllegalStateException("a test makes more than " + MOST_CALLS + " calls on one desk");
        }
        return desk;
    }

    int days(int n) {
        return called().days(n);
    }

    int folder(int in) {
        return called().folder(in);
    }

    int word(int w) {
        return called().word(w);
    }

    int paper(int folder, int day) {
        return called().paper(folder, day);
    }

    int page(int paper) {
        return called().page(paper);
    }

    boolean third(int paper, int person, boolean yes) {
        return called().third(paper, person, yes);
    }

    boolean heard(int person) {
        return called().heard(person);
    }

    boolean judge(int text, boolean yes) {
        return called().judge(text, yes);
    }

    int black(int text, int from, int to, int ground) {
        return called().black(text, from, to, ground);
    }

    boolean clear(int text, int span) {
        return called().clear(text, span);
    }

    int feed(long a, long b, long c) {
        return called().feed(a, b, c);
    }

    int rules() {
        return called().rules();
    }

    int ask(int folder, int from, int to) {
        return called().ask(folder, from, to);
    }

    int narrow(int ask, int word) {
        return called().narrow(ask, word);
    }

    boolean stop(int ask, boolean yes) {
        return called().stop(ask, yes);
    }

    int due(int ask) {
        return called().due(ask);
    }

    int found(int ask) {
        return called().found(ask);
    }

    int finds(int ask, int i) {
        return called().finds(ask, i);
    }

    int answer(int ask, int n) {
        return called().answer(ask, n);
    }

    int given(int i, int what) {
        return called().given(i, what);
    }

    int look(int ask, int what) {
        return called().look(ask, what);
    }

    int read(int page, int what) {
        return called().read(page, what);
    }

    int count(int what) {
        return called().count(what);
    }

    /** Puts eight signs of a text into a long, the first one highest; 0 where the text is over. */
    static long eight(String text, int from) {
        long packed = 0;
        for (int i = from; i < from + 8; i++) {
            packed = packed << 8 | (i < text.length() ? text.charAt(i) & 255 : 0);
        }
        return packed;
    }

    int feedText(String text) {
        int signs = text.isEmpty() ? count(9) : 0;
        for (int i = 0; i < text.length(); i += 24) {
            signs = feed(eight(text, i), eight(text, i + 8), eight(text, i + 16));
        }
        return signs;
    }

    int rulesOf(String text) {
        feedText(text);
        return rules();
    }

    void tell(int... words) {
        for (int word : words) {
            word(word);
        }
    }

    int paperOf(int folder, int day, int... words) {
        tell(words);
        return paper(folder, day);
    }

    int pageOf(int paper, int... words) {
        tell(words);
        return page(paper);
    }

    int askFor(int folder, int from, int to, int... words) {
        tell(words);
        return ask(folder, from, to);
    }

    /** Lets days pass until NOW is this one. */
    void goTo(int day) {
        int now = count(7);
        while (now < day) {
            now = days(Math.min(500, day - now));
        }
    }

    /** Judges the texts below this number. */
    void judgeUpTo(int texts) {
        for (int text = 0; text < texts; text++) {
            judge(text, true);
        }
    }

    /** Folders up to 20, each in the one before it. */
    void nestFolders() {
        for (int i = 0; i < 19; i++) {
            folder(i);
        }
    }

    /** A desk with one page in one paper of day 0. */
    static Desk withText(int... words) {
        Desk desk = new Desk();
        desk.paperOf(0, 0, words);
        return desk;
    }

    /** A desk with papers in folder 0, each of one page with one word: 1, 2 and on. */
    static Desk withPapers(int papers) {
        Desk desk = new Desk();
        for (int i = 0; i < papers; i++) {
            desk.paperOf(0, 0, 1 + i);
        }
        return desk;
    }

    /** A desk with one paper whose pages (up to 198) have a text each: one word, or two. */
    static Desk withPages(int pages) {
        Desk desk = withText(1);
        for (int i = 1; i < pages; i++) {
            if (i < 99) {
                desk.pageOf(0, 1 + i);
            } else {
                desk.pageOf(0, 1 + i - 99, 99);
            }
        }
        return desk;
    }

    /** A desk with something of each kind: whatever a refused call could spoil. */
    static Desk busy() {
        Desk desk = new Desk();
        desk.days(3);
        desk.folder(0);
        desk.folder(1);
        desk.paperOf(1, 2, 5, 6, 7);
        desk.pageOf(0, 8, 9);
        desk.paperOf(2, 0, 5, 6, 7);
        desk.rulesOf("ground 3 when folder = 1; ground 4 when age < 30 and thirds;");
        desk.black(0, 1, 1, 3);
        desk.black(0, 0, 1, 4);
        desk.black(1, 0, 0, 3);
        desk.judge(0, true);
        desk.askFor(0, 0, 10, 7);
        desk.days(1);
        desk.askFor(0, 0, 10, 7);
        desk.askFor(1, 0, 4999, 5, 6, 7, 7);
        desk.answer(0, 1);
        desk.third(1, 2, true);
        desk.third(1, 6, true);
        desk.heard(6);
        desk.stop(1, true);
        desk.days(1);
        desk.tell(11, 12);
        desk.feedText("ground 5 when 1; x");
        return desk;
    }

    /** All that can be asked of a desk, and then what calls that change it answer: the desk is used up by it. */
    List<String> snapshot() {
        List<String> seen = new ArrayList<>();
        for (int what = 0; what <= 10; what++) {
            seen.add("count(" + what + ") " + count(what));
        }
        for (int page = 0; page < count(2); page++) {
            for (int what = 0; what < 8; what++) {
                seen.add("read(" + page + ", " + what + ") " + read(page, what));
            }
        }
        for (int ask = 0; ask < count(5); ask++) {
            addAsk(seen, ask);
        }
        for (int i = 0; i < count(6); i++) {
            for (int what = 0; what < 8; what++) {
                seen.add("given(" + i + ", " + what + ") " + given(i, what));
            }
        }
        addProbes(seen);
        return seen;
    }

    private void addAsk(List<String> seen, int ask) {
        for (int what = 0; what <= 7; what++) {
            seen.add("look(" + ask + ", " + what + ") " + lookOrThrown(ask, what));
        }
        seen.add("due(" + ask + ") " + due(ask));
        seen.add("found(" + ask + ") " + found(ask));
        seen.add("finds(" + ask + ", 0) " + finds(ask, 0));
    }

    String lookOrThrown(int ask, int what) {
        try {
            return "" + look(ask, what);
        } catch (NoSuchElementException thrown) {
            return THROWN;
        }
    }

    private void addProbes(List<String> seen) {
        seen.add("word(13) " + word(13));
        seen.add("paper(0, 0) " + paper(0, 0));
        int last = count(2) - 1;
        for (int what = 4; what < 8; what++) {
            seen.add("the words told " + read(last, what));
        }
        for (int person = 0; person < 8; person++) {
            seen.add("heard(" + person + ") " + heard(person));
        }
        for (int text = 0; text < count(3); text++) {
            seen.add("black(" + text + ", 0, 0, 9) " + black(text, 0, 0, 9));
            seen.add("judge(" + text + ", true) " + judge(text, true));
        }
        for (int ask = 0; ask < count(5); ask++) {
            seen.add("stop(" + ask + ", false) " + stop(ask, false));
            seen.add("due(" + ask + ") " + due(ask));
            seen.add("narrow(" + ask + ", 8) " + narrow(ask, 8));
            seen.add("answer(" + ask + ", 50) " + answer(ask, 50));
        }
        seen.add("rules() " + rules());
        seen.add("count(8) " + count(8));
        seen.add("folder(0) " + folder(0));
        seen.add("days(1) " + days(1));
    }
}
