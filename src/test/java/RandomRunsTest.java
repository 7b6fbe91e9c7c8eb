import java.util.NoSuchElementException;
import java.util.Random;

/** Runs of 512 drawn calls, the same each time, on the class and on PlainDesk: each answer must be the same. */
public final class RandomRunsTest {
    private static final int RUNS = 1500;
    private static final int CALLS = 512;
    private static final int THROWN = 1 << 30;
    private static final String[] PIECES = {"ground", "when", "and", "age", "day", "folder", "pages", "thirds", "(", ")",
        "<", "=", "+", "-", ";", "0", "1", "2", "7", "10", "9999", "00000", "x", "groundwhen", "?", "\n", "A"};

    private final Checks check = new Checks();
    private Random random;
    private PapersDesk desk;
    private PlainDesk plain;
    private int calls;
    private boolean dense;

    public static void main(String[] args) {
        RandomRunsTest test = new RandomRunsTest();
        for (int run = 0; run < RUNS; run++) {
            test.run(run);
        }
        test.check.end();
    }

    private void run(int seed) {
        random = new Random(seed);
        desk = new PapersDesk();
        plain = new PlainDesk();
        calls = 0;
        dense = seed % 3 == 0;
        check.part("run " + seed);
        if (dense) {
            fill();
        }
        while (calls < CALLS) {
            draw();
        }
    }

    private void same(String call, long got, long want) {
        calls++;
        check.same("call " + calls + ", " + call, got, want);
    }

    private int up(int most) {
        return random.nextInt(most);
    }

    /** Mostly something from 0 to what is there, now and then something else. */
    private int one(int there) {
        int kind = up(40);
        if (kind == 0) {
            return -1;
        }
        if (kind == 1) {
            return random.nextInt();
        }
        if (kind == 2) {
            return up(2) == 0 ? Integer.MIN_VALUE : Integer.MAX_VALUE;
        }
        return kind == 3 || there == 0 ? there : up(there);
    }

    /** Makes a desk that has much, so that its limits come near. */
    private void fill() {
        int words = 1 + up(4);
        for (int i = 0; i < 60 + up(60); i++) {
            for (int w = 1 + up(2); w > 0; w--) {
                word(1 + up(words * 3));
            }
            if (i == 0 || up(4) == 0) {
                same("paper(0, 0)", desk.paper(0, 0), plain.paper(0, 0));
            } else {
                page(up(plain.count(1)));
            }
        }
        for (int text = 0; text < plain.count(3); text++) {
            same("judge(" + text + ", true)", desk.judge(text, true) ? 1 : 0, plain.judge(text, true) ? 1 : 0);
        }
    }

    private void word(int w) {
        same("word(" + w + ")", desk.word(w), plain.word(w));
    }

    private void page(int paper) {
        same("page(" + paper + ")", desk.page(paper), plain.page(paper));
    }

    private void feed(String text) {
        for (int i = 0; i < text.length(); i += 24) {
            long a = Desk.eight(text, i);
            long b = Desk.eight(text, i + 8);
            long c = Desk.eight(text, i + 16);
            same("feed of '" + text + "' at " + i, desk.feed(a, b, c), plain.feed(a, b, c));
        }
    }

    private void draw() {
        int kind = up(100);
        if (kind < 35) {
            drawStock(kind);
        } else if (kind < 55) {
            drawTexts(kind);
        } else if (kind < 75) {
            drawAsks(kind);
        } else {
            drawLooks(kind);
        }
    }

    private void drawStock(int kind) {
        if (kind < 3) {
            int n = up(20) == 0 ? up(600) - 50 : up(9);
            same("days(" + n + ")", desk.days(n), plain.days(n));
        } else if (kind < 5) {
            int in = one(plain.count(0));
            same("folder(" + in + ")", desk.folder(in), plain.folder(in));
        } else if (kind < 17) {
            word(up(30) == 0 ? one(100) : 1 + up(5));
        } else if (kind < 22) {
            int folder = one(plain.count(0));
            int day = one(plain.count(7) + 1);
            same("paper(" + folder + ", " + day + ")", desk.paper(folder, day), plain.paper(folder, day));
        } else if (kind < 27) {
            page(one(plain.count(1)));
        } else if (kind < 31) {
            int paper = one(plain.count(1));
            int person = one(8);
            boolean yes = random.nextBoolean();
            same("third(" + paper + ", " + person + ", " + yes + ")", desk.third(paper, person, yes) ? 1 : 0,
                    plain.third(paper, person, yes) ? 1 : 0);
        } else {
            int person = one(8);
            same("heard(" + person + ")", desk.heard(person) ? 1 : 0, plain.heard(person) ? 1 : 0);
        }
    }

    private void drawTexts(int kind) {
        int text = one(plain.count(3));
        if (kind < 42) {
            boolean yes = up(5) > 0;
            same("judge(" + text + ", " + yes + ")", desk.judge(text, yes) ? 1 : 0, plain.judge(text, yes) ? 1 : 0);
        } else if (kind < 48) {
            int from = one(3);
            int to = one(4);
            int ground = up(10) == 0 ? one(10) : up(3);
            same("black(" + text + ", " + from + ", " + to + ", " + ground + ")", desk.black(text, from, to, ground),
                    plain.black(text, from, to, ground));
        } else if (kind < 50) {
            int span = one(2);
            same("clear(" + text + ", " + span + ")", desk.clear(text, span) ? 1 : 0, plain.clear(text, span) ? 1 : 0);
        } else if (kind < 51) {
            long a = random.nextLong();
            same("feed(" + a + ", " + ~a + ", 0)", desk.feed(a, ~a, 0), plain.feed(a, ~a, 0));
        } else {
            feed(up(3) == 0 ? brokenRules() : lines());
            same("rules()", desk.rules(), plain.rules());
        }
    }

    private String lines() {
        StringBuilder text = new StringBuilder();
        int count = up(12) == 0 ? 14 + up(5) : up(4);
        for (int i = 0; i < count; i++) {
            text.append("ground ").append(up(3)).append(" when ").append(expression(up(20) == 0 ? 5 : up(4))).append(";");
        }
        return text.toString();
    }

    private String brokenRules() {
        String text = lines();
        int cut = up(text.length() + 1);
        StringBuilder broken = new StringBuilder(text.substring(0, cut));
        for (int i = up(3); i > 0; i--) {
            broken.append(up(2) == 0 ? " " : "").append(PIECES[up(PIECES.length)]);
        }
        int on = Math.min(text.length(), cut + up(3));
        return broken.append(text.substring(on)).toString();
    }

    private String expression(int depth) {
        String text = test(depth);
        for (int i = up(3); i > 1; i--) {
            text += " and " + test(depth);
        }
        return text;
    }

    private String test(int depth) {
        String text = sum(depth);
        return up(2) == 0 ? text : text + (up(2) == 0 ? "<" : " = ") + sum(depth);
    }

    private String sum(int depth) {
        String text = part(depth);
        for (int i = up(3); i > 1; i--) {
            text += (up(2) == 0 ? "+" : " - ") + part(depth);
        }
        return text;
    }

    private String part(int depth) {
        if (depth > 0 && up(depth + 1) > 0) {
            return "(" + expression(depth - 1) + ")";
        }
        return up(2) == 0 ? "" + up(6) : PIECES[3 + up(5)];
    }

    private void drawAsks(int kind) {
        int ask = one(plain.count(5));
        if (kind < 60) {
            int folder = up(3) == 0 ? one(plain.count(0)) : 0;
            int from = up(4) == 0 ? one(5000) : up(2);
            int to = up(4) == 0 ? one(5000) : 4998 + up(2);
            same("ask(" + folder + ", " + from + ", " + to + ")", desk.ask(folder, from, to), plain.ask(folder, from, to));
        } else if (kind < 62) {
            int word = up(10) == 0 ? one(100) : 1 + up(5);
            same("narrow(" + ask + ", " + word + ")", desk.narrow(ask, word), plain.narrow(ask, word));
        } else if (kind < 66) {
            boolean yes = random.nextBoolean();
            same("stop(" + ask + ", " + yes + ")", desk.stop(ask, yes) ? 1 : 0, plain.stop(ask, yes) ? 1 : 0);
        } else {
            int n = up(10) == 0 ? one(51) : dense ? 1 + up(50) : 1 + up(4);
            same("answer(" + ask + ", " + n + ")", desk.answer(ask, n), plain.answer(ask, n));
        }
    }

    private void drawLooks(int kind) {
        int ask = one(plain.count(5));
        if (kind < 78) {
            same("due(" + ask + ")", desk.due(ask), plain.due(ask));
        } else if (kind < 80) {
            same("found(" + ask + ")", desk.found(ask), plain.found(ask));
        } else if (kind < 82) {
            int i = one(4);
            same("finds(" + ask + ", " + i + ")", desk.finds(ask, i), plain.finds(ask, i));
        } else if (kind < 87) {
            int i = one(plain.count(6));
            int what = one(16);
            same("given(" + i + ", " + what + ")", desk.given(i, what), plain.given(i, what));
        } else if (kind < 94) {
            int what = one(8);
            same("look(" + ask + ", " + what + ")", lookAtDesk(ask, what), lookAtPlain(ask, what));
        } else if (kind < 98) {
            int page = one(plain.count(2));
            int what = one(16);
            same("read(" + page + ", " + what + ")", desk.read(page, what), plain.read(page, what));
        } else {
            int what = one(11);
            same("count(" + what + ")", desk.count(what), plain.count(what));
        }
    }

    private int lookAtDesk(int ask, int what) {
        try {
            return desk.look(ask, what);
        } catch (NoSuchElementException thrown) {
            return THROWN;
        }
    }

    private int lookAtPlain(int ask, int what) {
        try {
            return plain.look(ask, what);
        } catch (NoSuchElementException thrown) {
            return THROWN;
        }
    }
}
