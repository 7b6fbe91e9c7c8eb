import java.util.NoSuchElementException;

/** What the tests share: comparing answers, telling texts to a desk, and ending with the right exit code. */
final class Checks {
    private int wrong = 0;
    private int made = 0;
    private String part = "";

    void part(String name) {
        part = name;
    }

    void same(String call, long got, long want) {
        made++;
        if (got != want) {
            wrong++;
            System.out.println(part + ": " + call + " answered " + got + ", due is " + want);
        }
    }

    void yes(String call, boolean got) {
        same(call, got ? 1 : 0, 1);
    }

    void no(String call, boolean got) {
        same(call, got ? 1 : 0, 0);
    }

    void lookThrows(PapersDesk desk, int ask, int what) {
        made++;
        try {
            int got = desk.look(ask, what);
            wrong++;
            System.out.println(part + ": look(" + ask + ", " + what + ") answered " + got
                    + ", due is NoSuchElementException");
        } catch (NoSuchElementException due) {
            return;
        }
    }

    /** Puts eight signs of a text into a long, the first one highest; 0 where the text is over. */
    static long eight(String text, int from) {
        long packed = 0;
        for (int i = from; i < from + 8; i++) {
            packed = packed << 8 | (i < text.length() ? text.charAt(i) & 255 : 0);
        }
        return packed;
    }

    static int feed(PapersDesk desk, String text) {
        int signs = desk.count(9);
        for (int i = 0; i < text.length(); i += 24) {
            signs = desk.feed(eight(text, i), eight(text, i + 8), eight(text, i + 16));
        }
        return signs;
    }

    static int rules(PapersDesk desk, String text) {
        feed(desk, text);
        return desk.rules();
    }

    static void tell(PapersDesk desk, int... words) {
        for (int word : words) {
            desk.word(word);
        }
    }

    static int paper(PapersDesk desk, int folder, int day, int... words) {
        tell(desk, words);
        return desk.paper(folder, day);
    }

    static int page(PapersDesk desk, int paper, int... words) {
        tell(desk, words);
        return desk.page(paper);
    }

    static int ask(PapersDesk desk, int folder, int from, int to, int... words) {
        tell(desk, words);
        return desk.ask(folder, from, to);
    }

    void end() {
        System.out.println(wrong == 0 ? made + " answers are as due" : wrong + " of " + made + " answers are not as due");
        if (wrong != 0 || made == 0) {
            System.exit(1);
        }
    }
}
