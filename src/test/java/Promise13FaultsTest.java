/** Promise 13: The TAPE is read as RULES, in place of those that were: 0, or the FAULT. */
public final class Promise13FaultsTest {
    private static final Checks CHECK = new Checks();
    private static final String LINE = "ground 1 when 1;";

    public static void main(String[] args) throws IllegalAccessException {
        CHECK.runAll(Promise13FaultsTest.class);
    }

    private static void right(String text) {
        CHECK.same("rules() of '" + text + "'", new Desk().rulesOf(text), 0);
    }

    private static void fault(int kind, int place, String text) {
        CHECK.same("rules() of '" + text + "'", new Desk().rulesOf(text), kind + 16 * place);
    }

    private static void lines(int due, String text) {
        Desk desk = new Desk();
        CHECK.same("rules() of '" + text + "'", desk.rulesOf(text), 0);
        CHECK.same("count(8)", desk.count(8), due);
    }

    /** No line at all is right. */
    static void promise13TakesAnEmptyTape() {
        lines(0, "");
        lines(0, " ");
        lines(0, "\n");
        lines(0, " \n".repeat(300));
    }

    static void promise13CountsLines() {
        lines(1, LINE);
        lines(2, LINE + LINE);
        lines(2, LINE + " \n" + LINE + " ");
    }

    /** "RULES: 16 lines at most": the 16th. */
    static void promise13TakesTheSixteenthLine() {
        lines(15, LINE.repeat(15));
        lines(16, LINE.repeat(16));
        lines(16, LINE.repeat(16) + " \n ");
    }

    /** "5 a 17th line (at its first token)". */
    static void promise13RefusesTheSeventeenthLineAtItsFirstToken() {
        fault(5, 256, LINE.repeat(17));
        fault(5, 256, LINE.repeat(18));
        fault(5, 256, LINE.repeat(16) + "ground");
        fault(5, 259, LINE.repeat(16) + " \n ground 1 when 1;");
        fault(5, 256, LINE.repeat(16) + "ground 10 when ?");
    }

    /** It is told at the least kind: what can't begin a line is that, also as a 17th one. */
    static void promise13RefusesWhatCannotBeginA17thLine() {
        fault(1, 256, LINE.repeat(16) + ";");
        fault(1, 256, LINE.repeat(16) + "when");
        fault(1, 256, LINE.repeat(16) + "grounds");
        fault(1, 256, LINE.repeat(16) + "?");
        fault(1, 257, LINE.repeat(16) + " 1");
    }

    /** A fault in the 16th line comes before a 17th one. */
    static void promise13RefusesTheSixteenthLinesFaultFirst() {
        fault(1, 256, LINE.repeat(15) + "ground 1 when 1 " + LINE);
        fault(4, 247, LINE.repeat(15) + "ground 10 when 1;" + LINE);
    }

    /** "The first N is 0 to 9": the least and the most. */
    static void promise13TakesGroundsZeroAndNine() {
        right("ground 0 when 1;");
        right("ground 9 when 1;");
        right("ground 0000 when 1;");
        right("ground 09 when 1;");
    }

    /** "4 a GROUND above 9". */
    static void promise13RefusesGroundTen() {
        fault(4, 7, "ground 10 when 1;");
        fault(4, 7, "ground 0010 when 1;");
        fault(4, 7, "ground 9999 when 1;");
        fault(4, 6, "ground10");
        fault(4, 23, LINE + "ground 12 when 1;");
        right("ground 9 when 10;");
    }

    /** "1 it is none": a ground of five digits is no number, however high. */
    static void promise13RefusesAGroundOfFiveDigitsAsNone() {
        fault(1, 7, "ground 12345 when 1;");
        fault(1, 7, "ground 00001 when 1;");
        fault(1, 7, "ground -1 when 1;");
    }

    /** "1 .. can't stand there", at the place of each token of a line. */
    static void promise13RefusesTokensThatCannotStandThere() {
        fault(1, 0, ";");
        fault(1, 2, "  5");
        fault(1, 0, "when");
        fault(1, 7, "ground when");
        fault(1, 7, "ground ground");
        fault(1, 7, "ground (1) when 1;");
        fault(1, 9, "ground 1 1");
        fault(1, 9, "ground 1 and");
        fault(1, 14, "ground 1 when ;");
        fault(1, 14, "ground 1 when when;");
        fault(1, 14, "ground 1 when ground;");
        fault(1, 14, "ground 1 when and 1;");
        fault(1, 16, "ground 1 when 1 ground");
        fault(1, 16, "ground 1 when 1;;");
        fault(1, 17, "ground 1 when 1; 2");
        fault(1, 18, "ground 1 when day folder;");
    }

    /** The first N is a number: no other token can stand in its place. */
    static void promise13RefusesAGroundThatIsNoNumber() {
        String[] others = {"age", "day", "folder", "pages", "thirds", "and", "when", "ground", "x", "(", ")", "<", "=",
            "+", "-", ";", "?", "A"};
        for (String other : others) {
            fault(1, 7, "ground " + other + " when 1;");
        }
    }

    static void promise13RefusesSumsAndTestsWithoutASide() {
        fault(1, 14, "ground 1 when -1;");
        fault(1, 14, "ground 1 when +1;");
        fault(1, 14, "ground 1 when <1;");
        fault(1, 14, "ground 1 when =1;");
        fault(1, 16, "ground 1 when 1+;");
        fault(1, 16, "ground 1 when 1-;");
        fault(1, 16, "ground 1 when 1+-1;");
        fault(1, 16, "ground 1 when 1<;");
        fault(1, 16, "ground 1 when 1=;");
        fault(1, 16, "ground 1 when 1=and 1;");
        fault(1, 19, "ground 1 when 1 and;");
        fault(1, 20, "ground 1 when 1 and and 1;");
    }

    /** "SUM [ < SUM or = SUM ]": one of them at most. */
    static void promise13RefusesASecondComparison() {
        fault(1, 17, "ground 1 when 1=2=3;");
        fault(1, 17, "ground 1 when 1<2<3;");
        fault(1, 17, "ground 1 when 1<2=3;");
        fault(1, 21, "ground 1 when (1)<(2)=(3);");
        right("ground 1 when 1<2 and 2=3 and 3<4;");
        right("ground 1 when (1<2)<3;");
        right("ground 1 when 1=(2=3);");
    }

    static void promise13RefusesBracketsThatDoNotPair() {
        fault(1, 15, "ground 1 when ();");
        fault(1, 16, "ground 1 when (1;");
        fault(1, 15, "ground 1 when 1);");
        fault(1, 17, "ground 1 when (1));");
        fault(1, 17, "ground 1 when (1)(1);");
        fault(1, 16, "ground 1 when (1(1);");
        fault(1, 17, "ground 1 when (1)1;");
        fault(1, 15, "ground 1 when (;");
        fault(1, 14, "ground 1 when );");
    }

    /** "the end being one at the text's length": behind each token of a line but the last. */
    static void promise13RefusesTheEndWhereItCannotStand() {
        fault(1, 6, "ground");
        fault(1, 8, "ground 1");
        fault(1, 13, "ground 1 when");
        fault(1, 15, "ground 1 when 1");
        fault(1, 16, "ground 1 when 1+");
        fault(1, 16, "ground 1 when 1<");
        fault(1, 19, "ground 1 when 1 and");
        fault(1, 15, "ground 1 when (");
        fault(1, 16, "ground 1 when (1");
        fault(1, 17, "ground 1 when (1)");
        fault(1, 22, LINE + "ground");
    }

    /** The text's length, blanks at its end too. */
    static void promise13TellsTheEndBehindBlanks() {
        fault(1, 8, "ground  ");
        fault(1, 7, "ground\n");
        fault(1, 18, "ground 1 when 1 \n ");
    }

    /** The end of a full tape is at 600. */
    static void promise13TellsTheEndOfAFullTape() {
        fault(1, 600, "ground 1 when 1" + " ".repeat(585));
        fault(1, 600, "ground 1 when " + "1+".repeat(293));
        fault(1, 599, "ground 1 when 1" + " ".repeat(584));
    }

    /** A token's place: from the first sign of the tape to the last one. */
    static void promise13TellsPlacesFromZeroTo599() {
        fault(1, 0, "?");
        fault(1, 1, " ?");
        fault(1, 599, " ".repeat(599) + "?");
        fault(1, 599, " ".repeat(584) + "ground 1 when 1?");
        fault(5, 594, LINE.repeat(16) + " ".repeat(338) + "ground");
        fault(1, 595, LINE.repeat(16) + " ".repeat(339) + "ground");
        fault(4, 598, " ".repeat(591) + "ground 10");
        right("ground 1 when 1+" + "1+".repeat(291) + "1;");
    }

    /** A full tape of tokens of one sign each: as many tokens as there can be. */
    static void promise13ReadsSixHundredTokens() {
        String[] signs = {"(", ")", "<", "=", "+", "-", ";", "?", "A"};
        for (String sign : signs) {
            fault(1, 0, sign.repeat(600));
        }
        fault(1, 14, "ground 1 when " + ";".repeat(586));
        fault(5, 19, "ground 1 when " + "(".repeat(586));
        fault(1, 599, "ground1when(1" + "+1".repeat(293));
        right("ground1when1" + "-1".repeat(293) + " ;");
    }

    /** "5 within one another": five parts, the innermost within four. */
    static void promise13TakesFivePartsWithinOneAnother() {
        right("ground 1 when ((((1))));");
        right("ground 1 when ((((age))));");
        right("ground 1 when 1+((((1+1<1+1 and 1))));");
        right("ground 1 when ((((1))))+((((1))))and((((1))))<((((1))));");
        right("ground 1 when ((((1)+(2))+(3))+(4));");
        right(("ground 1 when ((((1))));").repeat(16));
    }

    /** "5 .. a PART within 5 others": at that part's first token. */
    static void promise13RefusesAPartWithinFiveOthers() {
        fault(5, 19, "ground 1 when (((((1)))));");
        fault(5, 19, "ground 1 when (((((age)))));");
        fault(5, 19, "ground 1 when (((((thirds");
        fault(5, 19, "ground 1 when ((((((1))))));");
        fault(5, 19, "ground 1 when ((((((");
        fault(5, 24, "ground 1 when ( ( ( ( ( 1 ) ) ) ) );");
        fault(5, 19, "ground 1 when (((((9999");
    }

    static void promise13RefusesItInEachPlaceOfAPart() {
        fault(5, 21, "ground 1 when 1+(((((1");
        fault(5, 21, "ground 1 when 1<(((((1");
        fault(5, 21, "ground 1 when 1=(((((1");
        fault(5, 24, "ground 1 when 1 and(((((1");
        fault(5, 21, "ground 1 when ((((1+(1");
        fault(5, 21, "ground 1 when ((((1<(1");
        fault(5, 25, "ground 1 when ((((1 and (1");
        fault(5, 29, "ground 1 when ((((1))))+(((((1");
        fault(5, 43, "ground 1 when ((((1))));" + "ground 1 when (((((1");
    }

    /** It is told at the least kind: what is no part there is that. */
    static void promise13RefusesWhatIsNoPartWithinFiveOthers() {
        fault(1, 19, "ground 1 when ((((()))));");
        fault(1, 19, "ground 1 when (((((and");
        fault(1, 19, "ground 1 when (((((-1");
        fault(1, 19, "ground 1 when (((((12345");
        fault(1, 19, "ground 1 when (((((folders");
        fault(1, 19, "ground 1 when (((((");
    }

    /** "of the first token from the left that is wrong". */
    static void promise13TellsTheFirstWrongTokenAlone() {
        fault(4, 7, "ground 11 when ((((((");
        fault(4, 7, "ground 10 ?");
        fault(1, 9, "ground 1 ? ground 10");
        fault(5, 19, "ground 1 when (((((1 ? 12345");
        fault(1, 14, "ground 1 when ? ((((((1");
        fault(1, 0, "? ground 10 when");
    }

    /** "what reads it takes it: it is empty then", whatever it reads. */
    static void promise13TakesTheTape() {
        Desk desk = new Desk();
        desk.rulesOf(LINE);
        CHECK.same("count(9)", desk.count(9), 0);
        desk.rulesOf("ground 1");
        CHECK.same("count(9) behind a fault", desk.count(9), 0);
        CHECK.same("the next text begins at 0", desk.rulesOf(" when"), 1 + 16);
    }

    /** "in place of those that were". */
    static void promise13PutsLinesInPlaceOfThoseThatWere() {
        Desk desk = Desk.withText(5, 6);
        desk.black(0, 0, 0, 1);
        desk.black(0, 1, 1, 2);
        desk.rulesOf("ground 1 when 1; ground 3 when 1;");
        CHECK.same("count(8)", desk.count(8), 2);
        CHECK.shows(desk, 0, 0, 6);
        desk.rulesOf("ground 2 when 1;");
        CHECK.same("count(8)", desk.count(8), 1);
        CHECK.shows(desk, 0, 5, 0);
        CHECK.same("an empty text", desk.rules(), 0);
        CHECK.same("count(8)", desk.count(8), 0);
        CHECK.shows(desk, 0, 5, 6);
    }

    /** A text with a fault is no RULES, so none come in place of those that were. */
    static void promise13LeavesTheLinesThatWereAtAFault() {
        Desk desk = Desk.withText(5, 6);
        desk.black(0, 0, 0, 1);
        desk.black(0, 1, 1, 2);
        desk.rulesOf("ground 1 when 1; ground 3 when 1;");
        CHECK.same("a fault", desk.rulesOf("ground 2 when 1; ground 5"), 1 + 16 * 25);
        CHECK.same("count(8)", desk.count(8), 2);
        CHECK.shows(desk, 0, 0, 6);
        CHECK.same("a 17th line", desk.rulesOf("ground 2 when 1;".repeat(17)), 5 + 16 * 256);
        CHECK.same("count(8)", desk.count(8), 2);
        CHECK.shows(desk, 0, 0, 6);
    }

    static void promise13LeavesAllElseAsItWasAtAFault() {
        CHECK.unchanged(() -> {
            Desk desk = Desk.busy();
            desk.rules();
            return desk;
        }, desk -> CHECK.same("a fault", desk.rulesOf("ground 3 when"), 1 + 16 * 13));
    }
}
