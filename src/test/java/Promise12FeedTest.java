/**
 * Promise 12: Up to 24 signs come behind the TAPE: the bytes of a, b, c, of each the highest first; others than 10 and
 * 32 .. 126, and what is beyond 600, are left out: how many there are.
 */
public final class Promise12FeedTest {
    private static final Checks CHECK = new Checks();

    public static void main(String[] args) throws IllegalAccessException {
        CHECK.runAll(Promise12FeedTest.class);
    }

    private static long eightTimes(int sign) {
        return sign * 0x0101010101010101L;
    }

    /** A desk with so many blanks on its tape. */
    private static Desk fed(int blanks) {
        Desk desk = new Desk();
        desk.feedText(" ".repeat(blanks));
        return desk;
    }

    /** "Up to 24 signs": none. */
    static void promise12TakesNoSign() {
        Desk desk = new Desk();
        CHECK.same("onto an empty tape", desk.feed(0, 0, 0), 0);
        desk.feedText("abc");
        CHECK.same("behind three", desk.feed(0, 0, 0), 3);
        CHECK.same("count(9)", desk.count(9), 3);
    }

    /** "Up to 24 signs": all. */
    static void promise12TakesTwentyFourSigns() {
        Desk desk = new Desk();
        CHECK.same("24", desk.feed(eightTimes('a'), eightTimes('b'), eightTimes('c')), 24);
        CHECK.same("24 more", desk.feed(eightTimes('d'), eightTimes('e'), eightTimes('f')), 48);
    }

    /** "others than 10 and 32 .. 126 .. are left out": each sign from 0 to 255. */
    static void promise12LeavesOutOtherSigns() {
        Desk desk = new Desk();
        int due = 0;
        for (int sign = 0; sign < 256; sign++) {
            if (sign == 10 || sign >= 32 && sign <= 126) {
                due++;
            }
            CHECK.same("behind sign " + sign, desk.feed((long) sign << 56, 0, 0), due);
        }
        CHECK.same("all that are", due, 96);
    }

    static void promise12TakesTheSignsAtTheEdges() {
        CHECK.same("10", new Desk().feed(eightTimes(10), 0, 0), 8);
        CHECK.same("9", new Desk().feed(eightTimes(9), 0, 0), 0);
        CHECK.same("11", new Desk().feed(0, eightTimes(11), 0), 0);
        CHECK.same("13", new Desk().feed(0, eightTimes(13), 0), 0);
        CHECK.same("31", new Desk().feed(0, eightTimes(31), 0), 0);
        CHECK.same("32", new Desk().feed(0, eightTimes(32), 0), 8);
        CHECK.same("126", new Desk().feed(0, 0, eightTimes(126)), 8);
        CHECK.same("127", new Desk().feed(0, 0, eightTimes(127)), 0);
        CHECK.same("128 + 10", new Desk().feed(eightTimes(138), eightTimes(138), eightTimes(138)), 0);
        CHECK.same("128 + 32", new Desk().feed(eightTimes(160), eightTimes(160), eightTimes(160)), 0);
        CHECK.same("255", new Desk().feed(-1, -1, -1), 0);
    }

    /** A byte is taken out of each of its eight places, in each of the three. */
    static void promise12TakesASignFromEachPlace() {
        for (int place = 0; place < 8; place++) {
            long one = (long) 'x' << 8 * place;
            CHECK.same("a, place " + place, new Desk().feed(one, 0, 0), 1);
            CHECK.same("b, place " + place, new Desk().feed(0, one, 0), 1);
            CHECK.same("c, place " + place, new Desk().feed(0, 0, one), 1);
        }
    }

    /** "the bytes of a, b, c, of each the highest first": read so, and no other way, it is one line. */
    static void promise12OrdersTheSigns() {
        Desk desk = new Desk();
        CHECK.same("24 signs", desk.feed(Desk.eight("ground 1", 0), Desk.eight(" when fo", 0), Desk.eight("lder=00;", 0)), 24);
        CHECK.same("rules()", desk.rules(), 0);
        CHECK.same("count(8)", desk.count(8), 1);
    }

    /** "come behind the TAPE". */
    static void promise12PutsSignsBehindThoseThatAreThere() {
        Desk desk = new Desk();
        desk.feed(Desk.eight("gro", 0), 0, 0);
        desk.feed(0, Desk.eight("und 1 wh", 0), 0);
        CHECK.same("16 signs", desk.feed(0, 0, Desk.eight("en 1;", 0)), 16);
        CHECK.same("rules()", desk.rules(), 0);
        CHECK.same("count(8)", desk.count(8), 1);
    }

    /** What is left out leaves no gap. */
    static void promise12JoinsWhatIsBesideASignLeftOut() {
        Desk desk = new Desk();
        CHECK.same("16 signs", desk.feedText("gr\tou\rnd 1 \u00ffwh\u0000en 1;"), 16);
        CHECK.same("rules()", desk.rules(), 0);
    }

    /** "The TAPE has at most 600 signs": the 600th. */
    static void promise12TakesThe600thSign() {
        Desk desk = fed(599);
        CHECK.same("the 600th", desk.feedText("x"), 600);
        CHECK.same("count(9)", desk.count(9), 600);
        CHECK.same("it is there", desk.rules(), 1 + 16 * 599);
    }

    /** "what is beyond 600 .. left out". */
    static void promise12LeavesOutThe601stSign() {
        Desk desk = fed(600);
        CHECK.same("the 601st", desk.feedText("x"), 600);
        CHECK.same("24 more", desk.feedText("y".repeat(24)), 600);
        CHECK.same("none", desk.feed(0, 0, 0), 600);
        CHECK.same("count(9)", desk.count(9), 600);
        CHECK.same("none of them is there", desk.rules(), 0);
    }

    /** Of one call the first ones are taken, up to 600. */
    static void promise12TakesWhatThereIsRoomFor() {
        Desk desk = fed(584);
        CHECK.same("16 of 24", desk.feedText("ground 1 when 1;xxxxxxxx"), 600);
        CHECK.same("rules()", desk.rules(), 0);
        CHECK.same("count(8)", desk.count(8), 1);
        Desk less = fed(585);
        CHECK.same("15 of 16", less.feedText("ground 1 when 1;"), 600);
        CHECK.same("without the last one", less.rules(), 1 + 16 * 600);
    }

    /** Signs that are left out take no room. */
    static void promise12KeepsRoomWhereSignsAreLeftOut() {
        Desk desk = fed(599);
        CHECK.same("seven others", desk.feed(0x0109_0b1f_7f80_ff00L, 0, 0), 599);
        CHECK.same("others and one", desk.feed(0x0109_0b1f_7f80_ff00L, 0, 'x'), 600);
    }

    /** "what reads it takes it: it is empty then". */
    static void promise12BeginsAgainWhenTheTapeWasRead() {
        Desk desk = fed(600);
        desk.rules();
        CHECK.same("count(9)", desk.count(9), 0);
        CHECK.same("a sign", desk.feedText("x"), 1);
        CHECK.same("a fault", desk.rules(), 1);
        CHECK.same("count(9)", desk.count(9), 0);
        CHECK.same("none", desk.feed(0, 0, 0), 0);
        CHECK.same("24", desk.feedText(" ".repeat(24)), 24);
    }

    static void promise12SignsThatAreLeftOutLeaveAllAsItWas() {
        CHECK.unchanged(desk -> CHECK.same("feed", desk.feed(-1, 0, 0x7f7f_1f1f_0909_0b0bL), 18));
    }
}
