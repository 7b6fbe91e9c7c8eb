import java.util.ArrayList;
import java.util.HashSet;
import java.util.LinkedHashSet;
import java.util.List;
import java.util.NoSuchElementException;
import java.util.Set;
import java.util.TreeSet;
import java.util.regex.Matcher;
import java.util.regex.Pattern;

/** The document once more, with the Java library and no care for speed or room, to compare the class with. */
final class PlainDesk {
    private interface Value {
        int of(Paper paper);
    }

    private record Line(int ground, Value value) { }

    private record Span(int from, int to, int ground) { }

    private record Given(int ask, int page, int day, List<Integer> words) { }

    private record Token(String text, int place) { }

    private static final class Paper {
        int folder;
        int day;
        final Set<Integer> thirds = new TreeSet<>();
    }

    private record Page(int paper, List<Integer> words) { }

    private static final class Ask {
        int folder;
        int from;
        int to;
        int came;
        int repeats = -1;
        List<Integer> words;
        final Set<Integer> stoppedDays = new HashSet<>();
        boolean stopped;
    }

    private static final class Fault extends Exception {
        private static final long serialVersionUID = 1;
        final int told;

        Fault(int kind, int place) {
            told = kind + 16 * place;
        }
    }

    private int now = 0;
    private final List<Integer> parents = new ArrayList<>(List.of(-1));
    private List<Integer> told = new ArrayList<>();
    private final List<Paper> papers = new ArrayList<>();
    private final List<Page> pages = new ArrayList<>();
    private final List<List<Integer>> texts = new ArrayList<>();
    private final Set<Integer> judged = new HashSet<>();
    private final List<List<Span>> spans = new ArrayList<>();
    private final Set<Integer> heard = new HashSet<>();
    private final List<Ask> asks = new ArrayList<>();
    private final List<Given> given = new ArrayList<>();
    private String tape = "";
    private List<Line> lines = new ArrayList<>();
    private List<Token> tokens;
    private int at;

    int days(int n) {
        if (n < 0 || n > 500 || now + n > 4999) {
            return -1;
        }
        for (int i = 0; i < n; i++) {
            for (Ask ask : asks) {
                if (ask.stopped) {
                    ask.stoppedDays.add(now);
                }
            }
            now++;
        }
        return now;
    }

    int folder(int in) {
        if (in < 0 || in >= parents.size() || parents.size() == 20) {
            return -1;
        }
        parents.add(in);
        return parents.size() - 1;
    }

    int word(int w) {
        if (w < 1 || w > 99 || told.size() == 12) {
            return -1;
        }
        told.add(w);
        return told.size();
    }

    private int newPage(int paper) {
        if (!texts.contains(told)) {
            texts.add(told);
            spans.add(new ArrayList<>());
        }
        pages.add(new Page(paper, told));
        told = new ArrayList<>();
        return pages.size() - 1;
    }

    int paper(int folder, int day) {
        if (told.isEmpty() || folder < 0 || folder >= parents.size() || day > now || day < 0
                || papers.size() == 40 || pages.size() == 120) {
            return -1;
        }
        Paper paper = new Paper();
        paper.folder = folder;
        paper.day = day;
        papers.add(paper);
        newPage(papers.size() - 1);
        return papers.size() - 1;
    }

    int page(int paper) {
        if (told.isEmpty() || paper < 0 || paper >= papers.size() || pages.size() == 120) {
            return -1;
        }
        return newPage(paper);
    }

    boolean third(int paper, int person, boolean yes) {
        if (paper < 0 || paper >= papers.size() || person < 0 || person > 7) {
            return false;
        }
        if (yes) {
            papers.get(paper).thirds.add(person);
        } else {
            papers.get(paper).thirds.remove(person);
        }
        return true;
    }

    boolean heard(int person) {
        return person >= 0 && person <= 7 && heard.add(person);
    }

    private boolean isText(int text) {
        return text >= 0 && text < texts.size();
    }

    boolean judge(int text, boolean yes) {
        if (!isText(text)) {
            return false;
        }
        if (yes) {
            judged.add(text);
        } else {
            judged.remove(text);
        }
        return true;
    }

    int black(int text, int from, int to, int ground) {
        if (!isText(text) || from < 0 || to >= texts.get(text).size() || from > to || ground < 0 || ground > 9
                || spans.get(text).size() == 4) {
            return -1;
        }
        spans.get(text).add(new Span(from, to, ground));
        return spans.get(text).size();
    }

    boolean clear(int text, int span) {
        if (!isText(text) || span < 0 || span >= spans.get(text).size()) {
            return false;
        }
        spans.get(text).remove(span);
        return true;
    }

    int feed(long a, long b, long c) {
        for (long part : new long[] {a, b, c}) {
            for (int i = 7; i >= 0; i--) {
                int sign = (int) (part >> 8 * i) & 0xFF;
                if ((sign == 10 || sign >= 32 && sign < 127) && tape.length() < 600) {
                    tape += (char) sign;
                }
            }
        }
        return tape.length();
    }

    int rules() {
        String text = tape;
        tape = "";
        tokens = new ArrayList<>();
        at = 0;
        Matcher matcher = Pattern.compile("[a-z]+|[0-9]+|[^ \n]").matcher(text);
        while (matcher.find()) {
            tokens.add(new Token(matcher.group(), matcher.start()));
        }
        tokens.add(new Token("", text.length()));
        List<Line> read = new ArrayList<>();
        try {
            while (!here().isEmpty()) {
                read.add(line(read.size()));
            }
        } catch (Fault fault) {
            return fault.told;
        }
        lines = read;
        return 0;
    }

    private String here() {
        return tokens.get(at).text;
    }

    private Fault fault(int kind) {
        return new Fault(kind, tokens.get(at).place);
    }

    private void need(String text) throws Fault {
        if (!here().equals(text)) {
            throw fault(1);
        }
        at++;
    }

    private boolean isNumber() {
        return here().matches("[0-9]{1,4}");
    }

    private Line line(int before) throws Fault {
        if (!here().equals("ground")) {
            throw fault(1);
        }
        if (before == 16) {
            throw fault(5);
        }
        at++;
        if (!isNumber()) {
            throw fault(1);
        }
        int ground = Integer.parseInt(here());
        if (ground > 9) {
            throw fault(4);
        }
        at++;
        need("when");
        Value value = expression(0);
        need(";");
        return new Line(ground, value);
    }

    private Value expression(int depth) throws Fault {
        Value left = test(depth);
        while (here().equals("and")) {
            at++;
            Value first = left;
            Value second = test(depth);
            left = paper -> first.of(paper) != 0 && second.of(paper) != 0 ? 1 : 0;
        }
        return left;
    }

    private Value test(int depth) throws Fault {
        Value left = sum(depth);
        String sign = here();
        if (!sign.equals("<") && !sign.equals("=")) {
            return left;
        }
        at++;
        Value right = sum(depth);
        if (sign.equals("<")) {
            return paper -> left.of(paper) < right.of(paper) ? 1 : 0;
        }
        return paper -> left.of(paper) == right.of(paper) ? 1 : 0;
    }

    private Value sum(int depth) throws Fault {
        Value left = part(depth);
        while (here().equals("+") || here().equals("-")) {
            int sign = here().equals("+") ? 1 : -1;
            at++;
            Value first = left;
            Value second = part(depth);
            left = paper -> first.of(paper) + sign * second.of(paper);
        }
        return left;
    }

    private Value part(int depth) throws Fault {
        String name = here();
        if (!isNumber() && !Set.of("age", "day", "folder", "pages", "thirds", "(").contains(name)) {
            throw fault(1);
        }
        if (depth == 5) {
            throw fault(5);
        }
        at++;
        switch (name) {
            case "age":
                return paper -> now - paper.day;
            case "day":
                return paper -> paper.day;
            case "folder":
                return paper -> paper.folder;
            case "pages":
                return paper -> (int) pages.stream().filter(page -> papers.get(page.paper) == paper).count();
            case "thirds":
                return paper -> paper.thirds.size();
            case "(":
                Value inner = expression(depth + 1);
                need(")");
                return inner;
            default:
                int number = Integer.parseInt(name);
                return paper -> number;
        }
    }

    private boolean holds(int ground, Paper paper) {
        return lines.stream().anyMatch(line -> line.ground == ground && line.value.of(paper) != 0);
    }

    private int textOf(Page page) {
        return texts.indexOf(page.words);
    }

    private List<Integer> shown(Page page) {
        List<Integer> shown = new ArrayList<>(page.words);
        for (Span span : spans.get(textOf(page))) {
            if (holds(span.ground, papers.get(page.paper))) {
                for (int i = span.from; i <= span.to; i++) {
                    shown.set(i, 0);
                }
            }
        }
        return shown;
    }

    private boolean isAsk(int ask) {
        return ask >= 0 && ask < asks.size();
    }

    int ask(int folder, int from, int to) {
        if (folder < 0 || folder >= parents.size() || from < 0 || to > 4999 || from > to || told.size() > 4
                || asks.size() == 20) {
            return -1;
        }
        Ask ask = new Ask();
        ask.folder = folder;
        ask.from = from;
        ask.to = to;
        ask.came = now;
        ask.words = told;
        told = new ArrayList<>();
        for (int i = asks.size() - 1; i >= 0; i--) {
            Ask other = asks.get(i);
            if (other.folder == folder && other.from == from && other.to == to
                    && new HashSet<>(other.words).equals(new HashSet<>(ask.words))) {
                ask.repeats = i;
            }
        }
        asks.add(ask);
        return asks.size() - 1;
    }

    private List<Integer> fitting(Ask ask) {
        List<Integer> fitting = new ArrayList<>();
        for (int i = 0; i < papers.size(); i++) {
            Paper paper = papers.get(i);
            Set<Integer> up = new LinkedHashSet<>();
            for (int folder = paper.folder; folder != -1; folder = parents.get(folder)) {
                up.add(folder);
            }
            Set<Integer> seen = new HashSet<>();
            for (Page page : pages) {
                if (page.paper == i) {
                    seen.addAll(shown(page));
                }
            }
            if (up.contains(ask.folder) && paper.day >= ask.from && paper.day <= ask.to
                    && seen.containsAll(ask.words)) {
                fitting.add(i);
            }
        }
        return fitting;
    }

    int narrow(int ask, int word) {
        if (!isAsk(ask) || word < 1 || word > 99) {
            return -1;
        }
        Ask asked = asks.get(ask);
        if (asked.words.size() == 4 || asked.words.contains(word)) {
            return -1;
        }
        List<Integer> before = fitting(asked);
        asked.words.add(word);
        before.removeAll(fitting(asked));
        return before.size();
    }

    boolean stop(int ask, boolean yes) {
        if (!isAsk(ask) || asks.get(ask).stopped == yes) {
            return false;
        }
        asks.get(ask).stopped = yes;
        return true;
    }

    int due(int ask) {
        if (!isAsk(ask) || asks.get(ask).stopped) {
            return -1;
        }
        Ask asked = asks.get(ask);
        int worked = 0;
        for (int day = asked.came + 1; day <= 4999; day++) {
            if (day % 7 != 5 && day % 7 != 6 && !asked.stoppedDays.contains(day)) {
                worked++;
            }
            if (worked == 20) {
                return day;
            }
        }
        return 4999;
    }

    int found(int ask) {
        return isAsk(ask) ? fitting(asks.get(ask)).size() : -1;
    }

    int finds(int ask, int i) {
        if (!isAsk(ask) || i < 0) {
            return -1;
        }
        List<Integer> fitting = fitting(asks.get(ask));
        return i < fitting.size() ? fitting.get(i) : -1;
    }

    private Set<Integer> textsGiven(int ask) {
        Set<Integer> seen = new HashSet<>();
        for (Given one : given) {
            if (one.ask == ask) {
                seen.add(textOf(pages.get(one.page)));
            }
        }
        return seen;
    }

    private List<Integer> pagesLeft(int ask) {
        List<Integer> left = new ArrayList<>();
        Set<Integer> done = textsGiven(ask);
        List<Integer> fitting = fitting(asks.get(ask));
        for (int i = 0; i < pages.size(); i++) {
            if (fitting.contains(pages.get(i).paper) && !done.contains(textOf(pages.get(i)))) {
                left.add(i);
            }
        }
        return left;
    }

    int answer(int ask, int n) {
        if (!isAsk(ask) || n < 1 || n > 50) {
            return -1;
        }
        Set<Integer> before = textsGiven(asks.get(ask).repeats);
        List<Integer> order = new ArrayList<>();
        for (int page : pagesLeft(ask)) {
            if (before.contains(textOf(pages.get(page)))) {
                order.add(page);
            }
        }
        for (int page : pagesLeft(ask)) {
            if (!order.contains(page)) {
                order.add(page);
            }
        }
        int count = 0;
        for (int i : order) {
            Page page = pages.get(i);
            boolean ready = judged.contains(textOf(page)) && heard.containsAll(papers.get(page.paper).thirds);
            if (ready && count < n && given.size() < 300 && !textsGiven(ask).contains(textOf(page))) {
                given.add(new Given(ask, i, now, shown(page)));
                count++;
            }
        }
        return count;
    }

    private static int blackOf(List<Integer> words) {
        return (int) words.stream().filter(word -> word == 0).count();
    }

    private static int wordAt(List<Integer> words, int what) {
        return what >= 4 && what - 4 < words.size() ? words.get(what - 4) : -1;
    }

    int given(int i, int what) {
        if (i < 0 || i >= given.size()) {
            return -1;
        }
        Given one = given.get(i);
        return switch (what) {
            case 0 -> one.ask;
            case 1 -> one.page;
            case 2 -> one.day;
            case 3 -> blackOf(one.words);
            default -> wordAt(one.words, what);
        };
    }

    int look(int ask, int what) {
        if (!isAsk(ask) || what < 0 || what > 7) {
            throw new NoSuchElementException();
        }
        Ask asked = asks.get(ask);
        Set<Integer> left = new HashSet<>();
        for (int page : pagesLeft(ask)) {
            left.add(textOf(pages.get(page)));
        }
        int all = left.size();
        left.removeAll(judged);
        return switch (what) {
            case 0 -> asked.came;
            case 1 -> (int) given.stream().filter(one -> one.ask == ask).count();
            case 2 -> all;
            case 3 -> left.size();
            case 4 -> asked.repeats;
            case 5 -> asked.stopped ? 1 : 0;
            case 6 -> asked.words.size();
            default -> !asked.stopped && all != 0 && now > due(ask) ? 1 : 0;
        };
    }

    int read(int page, int what) {
        if (page < 0 || page >= pages.size()) {
            return -1;
        }
        Page one = pages.get(page);
        return switch (what) {
            case 0 -> one.paper;
            case 1 -> textOf(one);
            case 2 -> one.words.size();
            case 3 -> blackOf(shown(one));
            default -> wordAt(shown(one), what);
        };
    }

    int count(int what) {
        int[] all = {parents.size(), papers.size(), pages.size(), texts.size(), judged.size(), asks.size(),
            given.size(), now, lines.size(), tape.length(), told.size()};
        return what >= 0 && what < all.length ? all[what] : -1;
    }
}
