import java.util.ArrayList;
import java.util.Arrays;
import java.util.NoSuchElementException;

/** Keeps papers in folders, blackens and judges their texts, and answers those who ask for pages. */
public final class PapersDesk {
    public static final int NONE = -1;

    private static final int LAST_DAY = 4999;
    private static final int MOST_DAYS_AT_ONCE = 500;
    private static final int MOST_FOLDERS = 20;
    private static final int MOST_PAPERS = 40;
    private static final int MOST_PAGES = 120;
    private static final int MOST_WORDS = 12;
    private static final int HIGHEST_WORD = 99;
    private static final int MOST_SPANS = 4;
    private static final int HIGHEST_GROUND = 9;
    private static final int PERSONS = 8;
    private static final int MOST_SIGNS = 600;
    private static final int MOST_LINES = 16;
    private static final int MOST_NESTED = 5;
    private static final int MOST_ASKS = 20;
    private static final int MOST_ASK_WORDS = 4;
    private static final int WORKING_DAYS = 20;
    private static final int MOST_AT_ONCE = 50;
    private static final int MOST_GIVEN = 300;

    /** From this "what" on, read and given tell single words. */
    private static final int FIRST_WORD_ASKED = 4;

    private int now = 0;
    private final int[] folderIn = new int[MOST_FOLDERS];
    private int folders = 1;
    private final int[] told = new int[MOST_WORDS];
    private int toldWords = 0;
    private final ArrayList<Paper> papers = new ArrayList<>();
    private final ArrayList<Page> pages = new ArrayList<>();
    private final ArrayList<Text> texts = new ArrayList<>();
    private final ArrayList<Ask> asks = new ArrayList<>();
    private final ArrayList<Gift> gifts = new ArrayList<>();
    private int heardPersons = 0;
    private final Tape tape = new Tape();
    private Rules inForce = new Rules();
    private Rules draft = new Rules();

    public PapersDesk() {
        folderIn[0] = NONE;
    }

    public int days(int n) {
        if (n < 0 || n > MOST_DAYS_AT_ONCE || n > LAST_DAY - now) {
            return NONE;
        }
        now += n;
        return now;
    }

    public int folder(int in) {
        if (!isFolder(in) || folders >= MOST_FOLDERS) {
            return NONE;
        }
        folderIn[folders] = in;
        folders++;
        return folders - 1;
    }

    public int word(int w) {
        if (!isWord(w) || toldWords >= MOST_WORDS) {
            return NONE;
        }
        told[toldWords] = w;
        toldWords++;
        return toldWords;
    }

    public int paper(int folder, int day) {
        if (!isFolder(folder) || day < 0 || day > now) {
            return NONE;
        }
        if (!canTakePage() || papers.size() >= MOST_PAPERS) {
            return NONE;
        }
        Paper made = new Paper(papers.size(), folder, day);
        papers.add(made);
        addToldPage(made);
        return made.number;
    }

    public int page(int paper) {
        Paper grown = paperAt(paper);
        if (grown == null || !canTakePage()) {
            return NONE;
        }
        addToldPage(grown);
        return pages.size() - 1;
    }

    public boolean third(int paper, int person, boolean yes) {
        Paper touched = paperAt(paper);
        if (touched == null || !isPerson(person)) {
            return false;
        }
        int bit = 1 << person;
        touched.thirds = yes ? touched.thirds | bit : touched.thirds & ~bit;
        return true;
    }

    public boolean heard(int person) {
        if (!isPerson(person) || (heardPersons >> person & 1) != 0) {
            return false;
        }
        heardPersons |= 1 << person;
        return true;
    }

    public boolean judge(int text, boolean yes) {
        Text judged = textAt(text);
        if (judged == null) {
            return false;
        }
        judged.judged = yes;
        return true;
    }

    public int black(int text, int from, int to, int ground) {
        Text blackened = textAt(text);
        if (blackened == null || ground < 0 || ground > HIGHEST_GROUND) {
            return NONE;
        }
        if (from < 0 || from > to || to >= blackened.words.length || blackened.spans >= MOST_SPANS) {
            return NONE;
        }
        blackened.addSpan(from, to, ground);
        return blackened.spans;
    }

    public boolean clear(int text, int span) {
        Text cleared = textAt(text);
        if (cleared == null || span < 0 || span >= cleared.spans) {
            return false;
        }
        cleared.dropSpan(span);
        return true;
    }

    public int feed(long a, long b, long c) {
        tape.putBytes(a);
        tape.putBytes(b);
        tape.putBytes(c);
        return tape.length;
    }

    public int rules() {
        int fault = new RuleReader(tape, draft).readAll();
        tape.wipe();
        if (fault == 0) {
            Rules old = inForce;
            inForce = draft;
            draft = old;
        }
        return fault;
    }

    public int ask(int folder, int from, int to) {
        if (!isFolder(folder) || from < 0 || from > to || to > LAST_DAY) {
            return NONE;
        }
        if (toldWords > MOST_ASK_WORDS || asks.size() >= MOST_ASKS) {
            return NONE;
        }
        Ask made = new Ask(asks.size(), folder, from, to, now);
        for (int i = 0; i < toldWords; i++) {
            made.addWord(told[i]);
        }
        toldWords = 0;
        made.repeats = leastSame(made);
        asks.add(made);
        return made.number;
    }

    public int narrow(int ask, int word) {
        Ask asked = askAt(ask);
        if (asked == null || !isWord(word) || asked.wordCount >= MOST_ASK_WORDS || asked.hasWord(word)) {
            return NONE;
        }
        int before = markFitting(asked);
        asked.addWord(word);
        return before - markFitting(asked);
    }

    public boolean stop(int ask, boolean yes) {
        Ask asked = askAt(ask);
        if (asked == null || asked.stopped == yes) {
            return false;
        }
        // A day on which it is stopped, or goes on, belongs to what comes behind it.
        if (yes) {
            asked.countThrough(now - 1);
        } else {
            asked.skipThrough(now - 1);
        }
        asked.stopped = yes;
        return true;
    }

    public int due(int ask) {
        Ask asked = askAt(ask);
        return asked == null || asked.stopped ? NONE : asked.dueDay();
    }

    public int found(int ask) {
        Ask asked = askAt(ask);
        return asked == null ? NONE : markFitting(asked);
    }

    public int finds(int ask, int i) {
        Ask asked = askAt(ask);
        if (asked == null) {
            return NONE;
        }
        markFitting(asked);
        int before = 0;
        for (int p = 0; p < papers.size(); p++) {
            if (papers.get(p).fits) {
                if (before == i) {
                    return p;
                }
                before++;
            }
        }
        return NONE;
    }

    public int answer(int ask, int n) {
        Ask asked = askAt(ask);
        if (asked == null || n < 1 || n > MOST_AT_ONCE) {
            return NONE;
        }
        markFitting(asked);
        int most = Math.min(n, MOST_GIVEN - gifts.size());
        Ask repeated = askAt(asked.repeats);
        int first = repeated == null ? 0 : givePages(asked, repeated, most);
        return first + givePages(asked, null, most - first);
    }

    public int given(int i, int what) {
        if (i < 0 || i >= gifts.size()) {
            return NONE;
        }
        Gift gift = gifts.get(i);
        switch (what) {
            case 0:
                return gift.ask;
            case 1:
                return gift.page;
            case 2:
                return gift.day;
            case 3:
                return gift.blackWords;
            default:
                int place = placeAsked(what, gift.words.length);
                return place == NONE ? NONE : gift.words[place];
        }
    }

    public int look(int ask, int what) throws NoSuchElementException {
        Ask asked = askAt(ask);
        if (asked == null) {
            throw new NoSuchElementException("no such ask");
        }
        switch (what) {
            case 0:
                return asked.came;
            case 1:
                return asked.pagesGiven;
            case 2:
                return countLeft(asked, false);
            case 3:
                return countLeft(asked, true);
            case 4:
                return asked.repeats;
            case 5:
                return asked.stopped ? 1 : 0;
            case 6:
                return asked.wordCount;
            case 7:
                return asked.isOverdueOn(now) && countLeft(asked, false) != 0 ? 1 : 0;
            default:
                throw new NoSuchElementException("nothing such is told of an ask");
        }
    }

    public int read(int page, int what) {
        if (page < 0 || page >= pages.size()) {
            return NONE;
        }
        Page shown = pages.get(page);
        switch (what) {
            case 0:
                return shown.paper.number;
            case 1:
                return shown.text.number;
            case 2:
                return shown.text.words.length;
            case 3:
                return shown.text.countBlack(inForce.groundsHolding(shown.paper, now));
            default:
                int place = placeAsked(what, shown.text.words.length);
                return place == NONE ? NONE : shown.text.wordShown(place, inForce.groundsHolding(shown.paper, now));
        }
    }

    public int count(int what) {
        switch (what) {
            case 0:
                return folders;
            case 1:
                return papers.size();
            case 2:
                return pages.size();
            case 3:
                return texts.size();
            case 4:
                return countJudged();
            case 5:
                return asks.size();
            case 6:
                return gifts.size();
            case 7:
                return now;
            case 8:
                return inForce.lines;
            case 9:
                return tape.length;
            case 10:
                return toldWords;
            default:
                return NONE;
        }
    }

    private boolean isFolder(int n) {
        return n >= 0 && n < folders;
    }

    private static boolean isWord(int w) {
        return w >= 1 && w <= HIGHEST_WORD;
    }

    private static boolean isPerson(int n) {
        return n >= 0 && n < PERSONS;
    }

    private Paper paperAt(int n) {
        return n >= 0 && n < papers.size() ? papers.get(n) : null;
    }

    private Text textAt(int n) {
        return n >= 0 && n < texts.size() ? texts.get(n) : null;
    }

    private Ask askAt(int n) {
        return n >= 0 && n < asks.size() ? asks.get(n) : null;
    }

    /** The place of the word that a "what" of read or given means, or NONE if there is none. */
    private static int placeAsked(int what, int words) {
        if (what < FIRST_WORD_ASKED || what - FIRST_WORD_ASKED >= words) {
            return NONE;
        }
        return what - FIRST_WORD_ASKED;
    }

    private boolean canTakePage() {
        return toldWords > 0 && pages.size() < MOST_PAGES;
    }

    private void addToldPage(Paper paper) {
        Page made = new Page(pages.size(), paper, toldText());
        pages.add(made);
        paper.pages.add(made);
        toldWords = 0;
    }

    /** The text of the words that are told: the one that is there, or else a new one. */
    private Text toldText() {
        for (int i = 0; i < texts.size(); i++) {
            Text there = texts.get(i);
            if (there.reads(told, toldWords)) {
                return there;
            }
        }
        Text made = new Text(texts.size(), told, toldWords);
        texts.add(made);
        return made;
    }

    private int countJudged() {
        int judged = 0;
        for (int i = 0; i < texts.size(); i++) {
            if (texts.get(i).judged) {
                judged++;
            }
        }
        return judged;
    }

    private int leastSame(Ask made) {
        for (int i = 0; i < asks.size(); i++) {
            if (asks.get(i).asksSameAs(made)) {
                return i;
            }
        }
        return NONE;
    }

    /** Notes for each paper whether it fits, and tells how many do. */
    private int markFitting(Ask asked) {
        int fits = 0;
        for (int i = 0; i < papers.size(); i++) {
            Paper paper = papers.get(i);
            paper.fits = isFitting(paper, asked);
            if (paper.fits) {
                fits++;
            }
        }
        return fits;
    }

    private boolean isFitting(Paper paper, Ask asked) {
        if (paper.day < asked.from || paper.day > asked.to || !liesIn(paper.folder, asked.folder)) {
            return false;
        }
        if (asked.wordCount == 0) {
            return true;
        }
        int grounds = inForce.groundsHolding(paper, now);
        for (int i = 0; i < asked.wordCount; i++) {
            if (!paper.shows(asked.words[i], grounds)) {
                return false;
            }
        }
        return true;
    }

    private boolean liesIn(int folder, int outer) {
        int at = folder;
        for (int i = 0; i < MOST_FOLDERS && isFolder(at); i++) {
            if (at == outer) {
                return true;
            }
            at = folderIn[at];
        }
        return false;
    }

    /** Gives pages of the papers that were marked; with a repeated ask, only texts that were given for it. */
    private int givePages(Ask asked, Ask repeated, int most) {
        int done = 0;
        for (int i = 0; i < pages.size() && done < most; i++) {
            Page page = pages.get(i);
            boolean inTurn = repeated == null || page.text.wasGivenFor(repeated);
            if (inTurn && isLeft(page, asked) && isReady(page)) {
                gifts.add(new Gift(asked.number, page, now, inForce.groundsHolding(page.paper, now)));
                page.text.noteGivenFor(asked);
                asked.pagesGiven++;
                done++;
            }
        }
        return done;
    }

    private boolean isLeft(Page page, Ask asked) {
        return page.paper.fits && !page.text.wasGivenFor(asked);
    }

    private boolean isReady(Page page) {
        return page.text.judged && (page.paper.thirds & ~heardPersons) == 0;
    }

    private int countLeft(Ask asked, boolean onlyUnjudged) {
        markFitting(asked);
        for (int i = 0; i < texts.size(); i++) {
            texts.get(i).seen = false;
        }
        int left = 0;
        for (int i = 0; i < pages.size(); i++) {
            Page page = pages.get(i);
            if (isLeft(page, asked) && !page.text.seen) {
                page.text.seen = true;
                if (!onlyUnjudged || !page.text.judged) {
                    left++;
                }
            }
        }
        return left;
    }

    /** Words in an order, judged and blackened once for all the pages that bear them. */
    private static final class Text {
        final int number;
        final int[] words;
        boolean judged = false;
        /** A mark for those who go through pages and want each text once; they take it off themselves. */
        boolean seen = false;
        /** One bit an ask. */
        private int givenFor = 0;
        int spans = 0;
        private final int[] spanFrom = new int[MOST_SPANS];
        private final int[] spanTo = new int[MOST_SPANS];
        private final int[] spanGround = new int[MOST_SPANS];

        Text(int number, int[] told, int count) {
            this.number = number;
            words = Arrays.copyOf(told, count);
        }

        boolean reads(int[] told, int count) {
            if (count != words.length || count > told.length) {
                return false;
            }
            for (int i = 0; i < count; i++) {
                if (told[i] != words[i]) {
                    return false;
                }
            }
            return true;
        }

        boolean wasGivenFor(Ask asked) {
            return (givenFor >> asked.number & 1) != 0;
        }

        void noteGivenFor(Ask asked) {
            givenFor |= 1 << asked.number;
        }

        void addSpan(int from, int to, int ground) {
            if (spans < MOST_SPANS) {
                spanFrom[spans] = from;
                spanTo[spans] = to;
                spanGround[spans] = ground;
                spans++;
            }
        }

        void dropSpan(int span) {
            for (int i = Math.max(span, 0); i + 1 < spans; i++) {
                spanFrom[i] = spanFrom[i + 1];
                spanTo[i] = spanTo[i + 1];
                spanGround[i] = spanGround[i + 1];
            }
            if (spans > 0) {
                spans--;
            }
        }

        boolean isBlackAt(int place, int grounds) {
            for (int i = 0; i < spans; i++) {
                boolean over = spanFrom[i] <= place && place <= spanTo[i];
                if (over && (grounds >> spanGround[i] & 1) != 0) {
                    return true;
                }
            }
            return false;
        }

        int wordShown(int place, int grounds) {
            return isBlackAt(place, grounds) ? 0 : words[place];
        }

        int countBlack(int grounds) {
            int black = 0;
            for (int i = 0; i < words.length; i++) {
                if (isBlackAt(i, grounds)) {
                    black++;
                }
            }
            return black;
        }

        boolean showsWord(int word, int grounds) {
            for (int i = 0; i < words.length; i++) {
                if (words[i] == word && !isBlackAt(i, grounds)) {
                    return true;
                }
            }
            return false;
        }
    }

    private static final class Paper {
        final int number;
        final int folder;
        final int day;
        final ArrayList<Page> pages = new ArrayList<>();
        /** One bit a person. */
        int thirds = 0;
        /** Whether it fits the ask that was looked at last. */
        boolean fits = false;

        Paper(int number, int folder, int day) {
            this.number = number;
            this.folder = folder;
            this.day = day;
        }

        boolean shows(int word, int grounds) {
            for (int i = 0; i < pages.size(); i++) {
                if (pages.get(i).text.showsWord(word, grounds)) {
                    return true;
                }
            }
            return false;
        }
    }

    private static final class Page {
        final int number;
        final Paper paper;
        final Text text;

        Page(int number, Paper paper, Text text) {
            this.number = number;
            this.paper = paper;
            this.text = text;
        }
    }

    private static final class Ask {
        final int number;
        final int folder;
        final int from;
        final int to;
        final int came;
        final int[] words = new int[MOST_ASK_WORDS];
        int wordCount = 0;
        int repeats = NONE;
        int pagesGiven = 0;
        boolean stopped = false;
        /** Days up to this one are counted or left out for good; once all working days are over, the due day. */
        private int settledDay;
        private int workedDays = 0;

        Ask(int number, int folder, int from, int to, int came) {
            this.number = number;
            this.folder = folder;
            this.from = from;
            this.to = to;
            this.came = came;
            settledDay = came;
        }

        void addWord(int word) {
            if (wordCount < MOST_ASK_WORDS) {
                words[wordCount] = word;
                wordCount++;
            }
        }

        boolean hasWord(int word) {
            for (int i = 0; i < wordCount; i++) {
                if (words[i] == word) {
                    return true;
                }
            }
            return false;
        }

        private boolean hasWordsOf(Ask other) {
            for (int i = 0; i < other.wordCount; i++) {
                if (!hasWord(other.words[i])) {
                    return false;
                }
            }
            return true;
        }

        boolean asksSameAs(Ask other) {
            boolean samePlace = folder == other.folder && from == other.from && to == other.to;
            return samePlace && hasWordsOf(other) && other.hasWordsOf(this);
        }

        private static boolean isWorkingDay(int day) {
            return day % 7 < 5;
        }

        void countThrough(int day) {
            for (int d = settledDay + 1; d <= day && workedDays < WORKING_DAYS; d++) {
                settledDay = d;
                if (isWorkingDay(d)) {
                    workedDays++;
                }
            }
        }

        void skipThrough(int day) {
            if (workedDays < WORKING_DAYS && day > settledDay) {
                settledDay = day;
            }
        }

        int dueDay() {
            int day = settledDay;
            int worked = workedDays;
            while (worked < WORKING_DAYS && day < LAST_DAY) {
                day++;
                if (isWorkingDay(day)) {
                    worked++;
                }
            }
            return day;
        }

        boolean isOverdueOn(int day) {
            return !stopped && day > dueDay();
        }
    }

    /** A page as it was when it was given. */
    private static final class Gift {
        final int ask;
        final int page;
        final int day;
        final int blackWords;
        final int[] words;

        Gift(int ask, Page given, int day, int grounds) {
            this.ask = ask;
            this.page = given.number;
            this.day = day;
            blackWords = given.text.countBlack(grounds);
            words = new int[given.text.words.length];
            for (int i = 0; i < words.length; i++) {
                words[i] = given.text.wordShown(i, grounds);
            }
        }
    }

    /** The signs that were fed, and the tokens that they are cut into. */
    private static final class Tape {
        // A token is one number: a NUMBER is its own value, the others stand below 0.
        static final int AGE = -1;
        static final int DAY = -2;
        static final int FOLDER = -3;
        static final int PAGES = -4;
        static final int THIRDS = -5;
        static final int PLUS = -6;
        static final int MINUS = -7;
        static final int LESS = -8;
        static final int EQUAL = -9;
        static final int AND = -10;
        static final int GROUND = -11;
        static final int WHEN = -12;
        static final int OPEN = -13;
        static final int CLOSE = -14;
        static final int SEMICOLON = -15;
        static final int END = -16;
        /** What is no token, and words that mean nothing: they can stand nowhere. */
        static final int STRAY = -17;

        private static final int MOST_LETTERS = 8;
        private static final int MOST_DIGITS = 4;

        private final char[] signs = new char[MOST_SIGNS];
        int length = 0;
        private final int[] tokens = new int[MOST_SIGNS + 1];
        private final int[] places = new int[MOST_SIGNS + 1];

        void putBytes(long eight) {
            for (int shift = 56; shift >= 0; shift -= 8) {
                putSign((char) (eight >>> shift & 255));
            }
        }

        private void putSign(char sign) {
            boolean known = sign == 10 || sign >= 32 && sign <= 126;
            if (known && length < MOST_SIGNS) {
                signs[length] = sign;
                length++;
            }
        }

        void wipe() {
            length = 0;
        }

        int tokenAt(int n) {
            return n >= 0 && n <= MOST_SIGNS ? tokens[n] : END;
        }

        int placeOf(int n) {
            return n >= 0 && n <= MOST_SIGNS ? places[n] : length;
        }

        /** Each token takes a sign at least, so there is room for all of them and the end. */
        void cut() {
            int at = 0;
            for (int n = 0; n <= MOST_SIGNS; n++) {
                int begin = skipBlanks(at);
                int end = endOfToken(begin);
                tokens[n] = kindOf(begin, end);
                places[n] = begin;
                if (tokens[n] == END) {
                    return;
                }
                at = end;
            }
        }

        private int skipBlanks(int from) {
            int at = from;
            while (at < length && (signs[at] == 10 || signs[at] == 32)) {
                at++;
            }
            return at;
        }

        private int endOfToken(int begin) {
            int at = begin;
            while (at < length && isLetter(signs[at])) {
                at++;
            }
            while (at < length && isDigit(signs[at]) && isDigit(signs[begin])) {
                at++;
            }
            return at > begin ? at : begin + 1;
        }

        private static boolean isLetter(char sign) {
            return sign >= 'a' && sign <= 'z';
        }

        private static boolean isDigit(char sign) {
            return sign >= '0' && sign <= '9';
        }

        private int kindOf(int begin, int end) {
            if (begin < 0 || begin >= length) {
                return END;
            }
            if (isLetter(signs[begin])) {
                return end - begin > MOST_LETTERS ? STRAY : kindOfWord(begin, end);
            }
            if (isDigit(signs[begin])) {
                return end - begin > MOST_DIGITS ? STRAY : valueOfDigits(begin, end);
            }
            return kindOfSign(signs[begin]);
        }

        private int valueOfDigits(int begin, int end) {
            int value = 0;
            for (int i = begin; i < end && i < length; i++) {
                value = value * 10 + (signs[i] - '0');
            }
            return value;
        }

        private static int kindOfSign(int sign) {
            switch (sign) {
                case '(':
                    return OPEN;
                case ')':
                    return CLOSE;
                case '<':
                    return LESS;
                case '=':
                    return EQUAL;
                case '+':
                    return PLUS;
                case '-':
                    return MINUS;
                case ';':
                    return SEMICOLON;
                default:
                    return STRAY;
            }
        }

        private int kindOfWord(int begin, int end) {
            if (spells(begin, end, "ground")) {
                return GROUND;
            }
            if (spells(begin, end, "when")) {
                return WHEN;
            }
            if (spells(begin, end, "and")) {
                return AND;
            }
            if (spells(begin, end, "age")) {
                return AGE;
            }
            if (spells(begin, end, "day")) {
                return DAY;
            }
            if (spells(begin, end, "folder")) {
                return FOLDER;
            }
            if (spells(begin, end, "pages")) {
                return PAGES;
            }
            return spells(begin, end, "thirds") ? THIRDS : STRAY;
        }

        private boolean spells(int begin, int end, String word) {
            if (end - begin != word.length() || end > length) {
                return false;
            }
            for (int i = 0; i < word.length(); i++) {
                if (signs[begin + i] != word.charAt(i)) {
                    return false;
                }
            }
            return true;
        }
    }

    /** Lines of grounds, each with its expression as code for a small stack: tokens, operands first. */
    private static final class Rules {
        /** On each level a left side of "and", of a comparison and of a sum can wait for its right side. */
        private static final int STACK = 3 * MOST_NESTED + 1;

        int lines = 0;
        private final int[] lineGround = new int[MOST_LINES];
        private final int[] lineEnd = new int[MOST_LINES];
        private final int[] code = new int[MOST_SIGNS];
        private int codeLength = 0;
        private final int[] stack = new int[STACK];

        void wipe() {
            lines = 0;
            codeLength = 0;
        }

        /** Numbers, and the names of what a paper has. */
        static boolean isOperand(int token) {
            return token >= Tape.THIRDS;
        }

        void putCode(int token) {
            if (codeLength < MOST_SIGNS) {
                code[codeLength] = token;
                codeLength++;
            }
        }

        void closeLine(int ground) {
            if (lines < MOST_LINES) {
                lineGround[lines] = ground;
                lineEnd[lines] = codeLength;
                lines++;
            }
        }

        /** One bit for each ground that holds. */
        int groundsHolding(Paper paper, int now) {
            int holding = 0;
            int begin = 0;
            for (int i = 0; i < lines; i++) {
                boolean known = (holding >> lineGround[i] & 1) != 0;
                if (!known && valueOf(begin, lineEnd[i], paper, now) != 0) {
                    holding |= 1 << lineGround[i];
                }
                begin = lineEnd[i];
            }
            return holding;
        }

        private int valueOf(int begin, int end, Paper paper, int now) {
            int top = 0;
            for (int i = begin; i < end && i < MOST_SIGNS; i++) {
                int token = code[i];
                if (isOperand(token)) {
                    if (top < STACK) {
                        stack[top] = valueOfOperand(token, paper, now);
                        top++;
                    }
                } else if (top >= 2) {
                    top--;
                    stack[top - 1] = join(token, stack[top - 1], stack[top]);
                }
            }
            return stack[0];
        }

        private static int valueOfOperand(int token, Paper paper, int now) {
            switch (token) {
                case Tape.AGE:
                    return now - paper.day;
                case Tape.DAY:
                    return paper.day;
                case Tape.FOLDER:
                    return paper.folder;
                case Tape.PAGES:
                    return paper.pages.size();
                case Tape.THIRDS:
                    return Integer.bitCount(paper.thirds);
                default:
                    return token;
            }
        }

        private static int join(int token, int left, int right) {
            switch (token) {
                case Tape.PLUS:
                    return left + right;
                case Tape.MINUS:
                    return left - right;
                case Tape.LESS:
                    return left < right ? 1 : 0;
                case Tape.EQUAL:
                    return left == right ? 1 : 0;
                default:
                    return left != 0 && right != 0 ? 1 : 0;
            }
        }
    }

    /** Reads the tape as lines of rules; each of its readers tells whether all went well. */
    private static final class RuleReader {
        private static final int MISPLACED = 1;
        private static final int GROUND_TOO_HIGH = 4;
        private static final int TOO_MUCH = 5;

        private final Tape tape;
        private final Rules rules;
        private int at = 0;
        private int token = Tape.END;
        private int fault = 0;

        RuleReader(Tape tape, Rules rules) {
            this.tape = tape;
            this.rules = rules;
        }

        int readAll() {
            rules.wipe();
            tape.cut();
            token = tape.tokenAt(0);
            for (int i = 0; i <= MOST_LINES && token != Tape.END; i++) {
                if (!readLine()) {
                    return fault;
                }
            }
            return 0;
        }

        private void step() {
            if (token != Tape.END) {
                at++;
                token = tape.tokenAt(at);
            }
        }

        private boolean refuse(int kind) {
            fault = kind + 16 * tape.placeOf(at);
            return false;
        }

        private boolean take(int wanted) {
            if (token != wanted) {
                return refuse(MISPLACED);
            }
            step();
            return true;
        }

        private boolean readLine() {
            if (token == Tape.GROUND && rules.lines >= MOST_LINES) {
                return refuse(TOO_MUCH);
            }
            if (!take(Tape.GROUND)) {
                return false;
            }
            int ground = token;
            if (ground < 0) {
                return refuse(MISPLACED);
            }
            if (ground > HIGHEST_GROUND) {
                return refuse(GROUND_TOO_HIGH);
            }
            step();
            if (!take(Tape.WHEN) || !readExpression(0) || !take(Tape.SEMICOLON)) {
                return false;
            }
            rules.closeLine(ground);
            return true;
        }

        private boolean readExpression(int within) {
            if (!readTest(within)) {
                return false;
            }
            for (int i = 0; i < MOST_SIGNS && token == Tape.AND; i++) {
                step();
                if (!readTest(within)) {
                    return false;
                }
                rules.putCode(Tape.AND);
            }
            return true;
        }

        private boolean readTest(int within) {
            if (!readSum(within)) {
                return false;
            }
            int sign = token;
            if (sign != Tape.LESS && sign != Tape.EQUAL) {
                return true;
            }
            step();
            if (!readSum(within)) {
                return false;
            }
            rules.putCode(sign);
            return true;
        }

        private boolean readSum(int within) {
            if (!readPart(within)) {
                return false;
            }
            for (int i = 0; i < MOST_SIGNS && (token == Tape.PLUS || token == Tape.MINUS); i++) {
                int sign = token;
                step();
                if (!readPart(within)) {
                    return false;
                }
                rules.putCode(sign);
            }
            return true;
        }

        private boolean readPart(int within) {
            boolean single = Rules.isOperand(token);
            if (!single && token != Tape.OPEN) {
                return refuse(MISPLACED);
            }
            if (within >= MOST_NESTED) {
                return refuse(TOO_MUCH);
            }
            if (single) {
                rules.putCode(token);
                step();
                return true;
            }
            step();
            return readExpression(within + 1) && take(Tape.CLOSE);
        }
    }
}
