/** Promise 13, the TOKENS: each as long as can be, blanks (10, 32) between where one likes. */
public final class Promise13TokensTest {
    private static final Checks CHECK = new Checks();

    public static void main(String[] args) throws IllegalAccessException {
        CHECK.runAll(Promise13TokensTest.class);
    }

    private static void right(String text) {
        CHECK.same("rules() of '" + text + "'", new Desk().rulesOf(text), 0);
    }

    private static void wrongAt(int place, String text) {
        CHECK.same("rules() of '" + text + "'", new Desk().rulesOf(text), 1 + 16 * place);
    }

    /** "blanks (10, 32) between where one likes". */
    static void promise13TakesBlanksBetween() {
        right("ground 1 when 1;");
        right("\nground\n1\nwhen\n1\n;\n");
        right("  ground \n\n 1  when   (  1 +\n2 )  <  3 ;  ");
        right("ground 1 when(1+2)<3 and(folder)=day;");
    }

    static void promise13NeedsNoBlanksWhereTokensEnd() {
        right("ground1when1;");
        right("ground 1when 2and 3and(age)and(4)=day;ground2when thirds;");
        right("ground 1 when age<day-folder+pages;");
    }

    static void promise13CutsNoTokenAtABlank() {
        wrongAt(0, "gro und 1 when 1;");
        wrongAt(9, "ground 1 wh en 1;");
        wrongAt(16, "ground 1 when 1 2;");
        wrongAt(16, "ground 1 when 1\n2;");
        wrongAt(14, "ground 1 when thir ds;");
    }

    /** "each as long as can be". */
    static void promise13MakesTokensAsLongAsCanBe() {
        wrongAt(0, "groundwhen 1;");
        wrongAt(14, "ground 1 when ageage;");
        wrongAt(14, "ground 1 when ageand 1;");
        wrongAt(14, "ground 1 when foldera;");
        CHECK.same("ground 11", new Desk().rulesOf("ground 11when 1;"), 4 + 16 * 7);
    }

    /** "WORDS (letters a .. z ..)": all of them count, and none but these. */
    static void promise13TakesSmallLettersAlone() {
        wrongAt(0, "Ground 1 when 1;");
        wrongAt(0, "grounD 1 when 1;");
        wrongAt(14, "ground 1 when Age;");
        wrongAt(14, "ground 1 when aGe;");
        wrongAt(14, "ground 1 when AGE;");
        wrongAt(14, "ground 1 when agea;");
        wrongAt(14, "ground 1 when agez;");
        wrongAt(14, "ground 1 when aage;");
        wrongAt(14, "ground 1 when zage;");
        wrongAt(17, "ground 1 when age`;");
        wrongAt(17, "ground 1 when age{;");
        wrongAt(17, "ground 1 when age_1;");
    }

    static void promise13KnowsItsWordsByEachLetter() {
        wrongAt(14, "ground 1 when ag;");
        wrongAt(14, "ground 1 when xge;");
        wrongAt(14, "ground 1 when axe;");
        wrongAt(14, "ground 1 when agx;");
        wrongAt(14, "ground 1 when da;");
        wrongAt(14, "ground 1 when dax;");
        wrongAt(14, "ground 1 when xay;");
        wrongAt(14, "ground 1 when folde;");
        wrongAt(14, "ground 1 when foldex;");
        wrongAt(14, "ground 1 when page;");
        wrongAt(14, "ground 1 when pagex;");
        wrongAt(14, "ground 1 when third;");
        wrongAt(14, "ground 1 when thirdx;");
        wrongAt(16, "ground 1 when 1 an 1;");
        wrongAt(16, "ground 1 when 1 anx 1;");
        wrongAt(9, "ground 1 whe 1;");
        wrongAt(9, "ground 1 whex 1;");
        wrongAt(0, "groun 1 when 1;");
        wrongAt(0, "grounx 1 when 1;");
    }

    /** "8 at most": no word of eight letters has a place either, so both are wrong, at the first sign. */
    static void promise13RefusesWordsOfEightAndOfNineLetters() {
        wrongAt(14, "ground 1 when thirdsss;");
        wrongAt(14, "ground 1 when thirdssss;");
        wrongAt(0, "grounddd 1 when 1;");
        wrongAt(0, "groundddd 1 when 1;");
        wrongAt(14, "ground 1 when " + "thirds".repeat(20) + ";");
        wrongAt(0, "a".repeat(600));
    }

    /** "NUMBERS (1 to 4 digits ..)": four. */
    static void promise13TakesNumbersOfFourDigits() {
        right("ground 1 when 9999;");
        right("ground 1 when 1000 = 0000;");
        right("ground 0009 when 1;");
        right("ground 1 when 0;");
    }

    /** "a longer .. NUMBER, too, at its first sign". */
    static void promise13RefusesNumbersOfFiveDigits() {
        wrongAt(14, "ground 1 when 10000;");
        wrongAt(14, "ground 1 when 00001;");
        wrongAt(16, "ground 1 when 1+12345;");
        wrongAt(7, "ground 00001 when 1;");
        wrongAt(14, "ground 1 when " + "1".repeat(500) + ";");
        wrongAt(14, "ground 1 when 4294967297;");
    }

    /** "a letter may stand right behind". */
    static void promise13TakesALetterRightBehindANumber() {
        right("ground 1when 1;");
        right("ground 1 when 2and 3;");
        right("ground 1 when 9999and 9999;");
        wrongAt(15, "ground 1 when 1age;");
        wrongAt(14, "ground 1 when 12345and 1;");
    }

    /** A digit is no part of a word, so behind one a number begins. */
    static void promise13EndsAWordAtADigit() {
        right("ground1 when 1 and1;");
        wrongAt(17, "ground 1 when age1;");
        wrongAt(0, "gr0und 1 when 1;");
    }

    /** "the signs ( ) < = + - and the semicolon. All else .. is none": each sign there is, behind a right PART. */
    static void promise13KnowsEachSign() {
        for (char sign = 32; sign <= 126; sign++) {
            int due = 1 + 16 * 15;
            if (sign == ' ' || sign >= '0' && sign <= '9') {
                due = 0;
            } else if ("+-<=;".indexOf(sign) >= 0) {
                due = 1 + 16 * 16;
            }
            CHECK.same("sign " + sign, new Desk().rulesOf("ground 1 when 1" + sign + ";"), due);
        }
        right("ground 1 when 1\n;");
    }

    /** The same before a right PART: only the opening one can stand there. */
    static void promise13KnowsEachSignBeforeAPart() {
        for (char sign = 33; sign <= 126; sign++) {
            int due = 1 + 16 * 14;
            if (sign >= '0' && sign <= '9') {
                due = 0;
            } else if (sign == '(') {
                due = 1 + 16 * 16;
            }
            CHECK.same("sign " + sign, new Desk().rulesOf("ground 1 when " + sign + "1;"), due);
        }
    }

    static void promise13KnowsNoSignsOfTwo() {
        wrongAt(17, "ground 1 when 1 <= 2;");
        wrongAt(17, "ground 1 when 1 == 2;");
        wrongAt(17, "ground 1 when 1 << 2;");
        wrongAt(17, "ground 1 when 1 =< 2;");
        wrongAt(17, "ground 1 when 1 ++ 2;");
        wrongAt(17, "ground 1 when 1 -- 2;");
    }
}
