/** For each promise: ordinary inputs, the edges that the document names, wrong inputs; worked out by hand. */
public final class PromisesTest {
    private static final int NONE = -1, UNKNOWN = -101, OUTSIDE = -102, STATE = -103, FULL = -104;
    private static final int PERSON = 0, MISER = 1, WIDOW = 2, SAILOR = 3, CAPTAIN = 4;
    private static final int LOW = Integer.MIN_VALUE, HIGH = Integer.MAX_VALUE;
    private static int wrong = 0;

    private static void due(int promise, String call, long got, long want) {
        if (got != want) {
            wrong++;
            System.out.println("promise " + promise + ": " + call + " answered " + got + ", due is " + want);
        }
    }

    private static void write(FavoursGoRound x, String text) {
        for (char sign : text.toCharArray()) {
            x.letter(sign);
        }
    }

    private static FavoursGoRound under(String law, int... kinds) {
        FavoursGoRound x = new FavoursGoRound();
        write(x, law);
        x.law();
        for (int kind : kinds) {
            x.person(kind);
        }
        return x;
    }

    private static int faultOf(String text) {
        FavoursGoRound x = new FavoursGoRound();
        write(x, text);
        return x.fault();
    }

    private static int lawOf(String text) {
        FavoursGoRound x = new FavoursGoRound();
        write(x, text);
        return x.law();
    }

    public static void main(String[] args) {
        newObject();
        pageOfLetters();
        faults();
        laws();
        betweenTwo();
        people();
        aboutPeople();
        kinds();
        lawfulFavours();
        doneFavours();
        deeds();
        weeksGo();
        ways();
        reaches();
        barring();
        meetings();
        ringsByLength();
        diaries();
        weeksBySeed();
        images();
        counts();
        digests();
        System.out.println(wrong == 0 ? "all promises hold" : wrong + " answers are not as due");
        if (wrong != 0) {
            System.exit(1);
        }
    }

    private static void newObject() {
        FavoursGoRound x = new FavoursGoRound();
        for (int what = 0; what <= 10; what++) {
            due(1, "count(" + what + ")", x.count(what), 0);
        }
        due(1, "person(0) with no law", x.person(0), STATE);
        due(1, "week() with no law", x.week(), STATE);
        due(1, "weeks(1, 0, 0) with no law", x.weeks(1, 0, 0), STATE);
        due(1, "image() with no law", x.image(), STATE);
        due(1, "restore() with no law", x.restore(), STATE);
        due(1, "between(0, 1)", x.between(0, 1), UNKNOWN);
        due(1, "reach(0)", x.reach(0), UNKNOWN);
        due(1, "fits()", x.fits(), 1);
        due(1, "forget()", x.forget(), 0);
        long h = 31 * 743 + 1;
        for (int what = 0; what <= 10; what++) {
            h = 31 * h;
        }
        due(1, "digest()", x.digest(), h);
    }

    private static void pageOfLetters() {
        FavoursGoRound x = new FavoursGoRound();
        due(2, "letter(0)", x.letter(0), OUTSIDE);
        due(2, "letter(127)", x.letter(127), OUTSIDE);
        due(2, "letter(LOW)", x.letter(LOW), OUTSIDE);
        due(2, "letter(1)", x.letter(1), 1);
        due(2, "letter(126)", x.letter(126), 2);
        for (int n = 3; n <= 54; n++) {
            due(2, "letter(48)", x.letter(48), n);
        }
        due(2, "letter(48) on a full page", x.letter(48), FULL);
        due(2, "letter(0) on a full page", x.letter(0), OUTSIDE);
        due(2, "count(9)", x.count(9), 54);
        due(3, "blank()", x.blank(), 54);
        due(3, "blank()", x.blank(), 0);
        due(3, "letter(48) behind blank()", x.letter(48), 1);
    }

    private static void faults() {
        due(4, "an empty page", faultOf(""), 0);
        due(4, "a whole law", faultOf("01;12;9"), 7);
        due(4, "a beginning", faultOf("01;1"), 4);
        due(4, "a dash", faultOf("-;01;1"), 6);
        due(4, "a dash behind pairs", faultOf("01,-"), 3);
        due(4, "a dash for MET", faultOf("-;-"), 2);
        due(4, "a digit behind a dash", faultOf("-0"), 1);
        due(4, "a comma behind a dash", faultOf("-,"), 1);
        due(4, "no KIN", faultOf(";01;1"), 0);
        due(4, "no MET", faultOf("-;;1"), 2);
        due(4, "6 is nobody", faultOf("6"), 0);
        due(4, "6 is nobody", faultOf("06"), 1);
        due(4, "like digits", faultOf("33;01;1"), 1);
        due(4, "a pair told twice", faultOf("01,01;01;1"), 4);
        due(4, "a pair told the other way", faultOf("-;01,12,10;1"), 9);
        due(4, "the same pair of KIN and of MET", faultOf("01;01;1"), 7);
        due(4, "half a pair", faultOf("0;"), 1);
        due(4, "half a pair", faultOf("0,"), 1);
        due(4, "three digits", faultOf("012"), 2);
        due(4, "five pairs of KIN", faultOf("01,02,03,04,05;"), 15);
        due(4, "a sixth pair of KIN", faultOf("01,02,03,04,05,"), 14);
        due(4, "a first digit with all its pairs told", faultOf("-;01,02,03,04,05,0"), 18);
        due(4, "and what is behind it", faultOf("-;01,02,03,04,05,01"), 18);
        String twelve = "-;01,02,03,04,05,12,13,14,15,23,24,25";
        due(4, "twelve pairs of MET", faultOf(twelve + ";1"), twelve.length() + 2);
        due(4, "a thirteenth pair of MET", faultOf(twelve + ",34;1"), twelve.length());
        due(4, "TERM 0", faultOf("-;01;0"), 5);
        due(4, "TERM no digit", faultOf("-;01;:"), 5);
        due(4, "a letter behind all", faultOf("-;01;11"), 6);
        due(4, "a strange letter", faultOf("-;01;a"), 5);
        FavoursGoRound x = new FavoursGoRound();
        write(x, "-;01;1");
        x.fault();
        due(4, "fault() leaves the page", x.count(9), 6);
        due(4, "fault() reads no law", x.count(10), 0);
    }

    private static void laws() {
        due(5, "law() of nothing", lawOf(""), STATE);
        due(5, "law() of a beginning", lawOf("-;01;"), STATE);
        due(5, "law() of too much", lawOf("-;01;12"), STATE);
        due(5, "law() of a fault", lawOf("-;00;1"), STATE);
        due(5, "law()", lawOf("01,02;01,23,45;1"), 3);
        FavoursGoRound again = new FavoursGoRound();
        write(again, "-;01;1");
        again.blank();
        write(again, "-;01;");
        due(5, "letters that were blanked are gone", again.law(), STATE);
        due(4, "letters that were blanked are gone", again.fault(), 5);
        due(5, "the longest law", lawOf("01,02,03,04,05;01,02,03,04,05,12,13,14,15,23,24,25;9"), 12);
        FavoursGoRound x = under("01;12,20;4", PERSON, PERSON, PERSON);
        x.favour(0, 1, 5, NONE);
        x.week();
        x.thanks(1);
        write(x, "x");
        due(5, "law() refused", x.law(), STATE);
        due(5, "the page is left", x.count(9), 1);
        due(5, "people are left", x.count(3), 3);
        x.blank();
        write(x, "-;45;7");
        due(5, "another law()", x.law(), 1);
        due(5, "met", x.count(0), 1);
        due(5, "kin", x.count(1), 0);
        due(5, "term", x.count(2), 7);
        due(5, "people are gone", x.count(3), 0);
        due(5, "favours are gone", x.count(4), 0);
        due(5, "week 0", x.count(6), 0);
        due(5, "the diary is gone", x.count(8), 0);
        due(5, "the page is empty", x.count(9), 0);
        due(5, "readings", x.count(10), 2);
        for (int n = 0; n < 6; n++) {
            x.person(PERSON);
        }
        due(5, "old kin are gone", x.between(0, 1), 0);
        due(5, "new ones have met", x.between(5, 4), 2);
    }

    private static void betweenTwo() {
        FavoursGoRound x = under("01,23;12,23;4", PERSON, PERSON, PERSON, MISER, WIDOW);
        due(6, "kin", x.between(0, 1), 3);
        due(6, "kin, the other way", x.between(1, 0), 3);
        due(6, "met", x.between(2, 1), 2);
        due(6, "kin who met, too", x.between(3, 2), 3);
        due(6, "strangers", x.between(0, 4), 0);
        due(6, "nobody", x.between(0, 5), UNKNOWN);
        due(6, "nobody", x.between(NONE, 0), UNKNOWN);
        due(6, "the same", x.between(1, 1), UNKNOWN);
        due(6, "wild", x.between(LOW, HIGH), UNKNOWN);
        x.person(SAILOR);
        due(6, "a sailor knows", x.between(5, 0), 2);
        due(6, "a sailor is known", x.between(4, 5), 2);
        FavoursGoRound y = under("01;12;4", CAPTAIN, PERSON, PERSON, MISER);
        due(6, "a captain is kin", y.between(0, 1), 3);
        due(6, "a captain knows", y.between(0, 2), 2);
        due(6, "a captain knows a miser", y.between(3, 0), 2);
    }

    private static void people() {
        FavoursGoRound x = new FavoursGoRound();
        due(7, "person(5) with no law", x.person(5), OUTSIDE);
        due(7, "person(0) with no law", x.person(0), STATE);
        write(x, "-;01;1");
        x.law();
        due(7, "person(-1)", x.person(-1), OUTSIDE);
        for (int n = 0; n < 6; n++) {
            due(7, "person", x.person(n % 5), n);
        }
        due(7, "a seventh", x.person(0), FULL);
        due(7, "a seventh of no kind", x.person(5), OUTSIDE);
        due(7, "count(3)", x.count(3), 6);
    }

    private static void aboutPeople() {
        FavoursGoRound x = under("-;01,12,20;2", PERSON, CAPTAIN, WIDOW);
        due(8, "kind", x.about(1, 0), CAPTAIN);
        due(8, "term", x.about(0, 5), 2);
        due(8, "term of a captain", x.about(1, 5), 4);
        x.favour(0, 1, 5, NONE);
        x.favour(0, 1, 6, NONE);
        x.favour(0, 2, 7, NONE);
        x.favour(1, 2, 5, 0);
        due(8, "did", x.about(0, 1), 3);
        due(8, "for him", x.about(1, 2), 2);
        due(8, "owes", x.about(1, 3), 1);
        due(8, "owes", x.about(2, 3), 2);
        due(8, "owes nothing", x.about(0, 3), 0);
        x.week();
        x.week();
        due(8, "not late yet", x.about(2, 4), 0);
        x.week();
        due(8, "late", x.about(2, 4), 2);
        due(8, "a captain is not late yet", x.about(1, 4), 0);
        x.week();
        x.week();
        due(8, "a captain is late", x.about(1, 4), 1);
        due(8, "nobody", x.about(3, 0), UNKNOWN);
        due(8, "nobody, and what is wrong", x.about(-1, 6), UNKNOWN);
        due(8, "what", x.about(0, 6), OUTSIDE);
        due(8, "what", x.about(0, -1), OUTSIDE);
    }

    private static void kinds() {
        FavoursGoRound x = under("-;01;2", PERSON, MISER, WIDOW, SAILOR, CAPTAIN);
        for (int who = 0; who < 5; who++) {
            for (int kind = 0; kind < 5; kind++) {
                boolean is = kind == PERSON || kind == who || who == CAPTAIN && kind == SAILOR;
                due(9, "as(" + who + ", " + kind + ")", x.as(who, kind), is ? who : NONE);
            }
        }
        due(9, "nobody", x.as(5, 0), UNKNOWN);
        due(9, "nobody of no kind", x.as(5, 9), UNKNOWN);
        due(9, "no kind", x.as(0, 5), OUTSIDE);
        due(9, "no kind", x.as(0, -1), OUTSIDE);
    }

    private static void lawfulFavours() {
        FavoursGoRound x = under("04;01,12,13,14,15,23,25;2", PERSON, PERSON, WIDOW, PERSON, PERSON, MISER);
        due(10, "free", x.may(0, 1, 1, NONE), 1);
        due(10, "kin know", x.may(0, 4, 99, NONE), 1);
        due(10, "strangers", x.may(0, 2, 1, NONE), 0);
        due(10, "a miser", x.may(5, 1, 1, NONE), 0);
        due(10, "for a miser", x.may(1, 5, 1, NONE), 1);
        due(10, "worth 0", x.may(0, 1, 0, NONE), OUTSIDE);
        due(10, "worth 100", x.may(0, 1, 100, NONE), OUTSIDE);
        due(10, "the same", x.may(0, 0, 1, NONE), UNKNOWN);
        due(10, "nobody", x.may(6, 0, 1, NONE), UNKNOWN);
        due(10, "for nobody", x.may(0, -1, 1, NONE), UNKNOWN);
        due(10, "repays no favour", x.may(0, 1, 1, 0), UNKNOWN);
        due(10, "repays no favour, worth nothing", x.may(0, 1, 0, -2), UNKNOWN);
        due(10, "wild", x.may(0, 1, HIGH, LOW), UNKNOWN);
        x.favour(0, 1, 10, NONE);
        due(10, "repaid to a stranger", x.may(1, 2, 10, 0), 1);
        due(10, "more", x.may(1, 3, 11, 0), 1);
        due(10, "less", x.may(1, 2, 9, 0), 0);
        due(10, "to the same again", x.may(1, 0, 10, 0), 0);
        due(10, "to his kin", x.may(1, 4, 10, 0), 0);
        due(10, "not his to repay", x.may(2, 3, 10, 0), 0);
        x.favour(1, 2, 10, 0);
        due(10, "repaid already", x.may(1, 3, 10, 0), 0);
        due(10, "a widow, 1 less", x.may(2, 3, 9, 1), 1);
        due(10, "a widow, 2 less", x.may(2, 3, 8, 1), 0);
        x.week();
        x.week();
        due(10, "in the last week", x.may(2, 3, 9, 1), 1);
        x.week();
        due(10, "late", x.may(2, 3, 9, 1), 0);
        due(10, "free, though he owes", x.may(2, 3, 9, NONE), 1);
        due(10, "may() does nothing", x.count(4), 2);
        FavoursGoRound y = under("-;01;1", PERSON, CAPTAIN, PERSON);
        y.favour(0, 1, 3, NONE);
        y.week();
        y.week();
        due(10, "a captain has twice as long", y.may(1, 2, 3, 0), 1);
        y.week();
        due(10, "and no longer", y.may(1, 2, 3, 0), 0);
    }

    private static void doneFavours() {
        FavoursGoRound x = under("-;01,12;5", PERSON, PERSON, PERSON, MISER);
        due(11, "nobody", x.favour(0, 4, 0, NONE), UNKNOWN);
        due(11, "worth", x.favour(0, 1, 0, NONE), OUTSIDE);
        due(11, "strangers", x.favour(0, 2, 1, NONE), STATE);
        due(11, "strangers, worth", x.favour(0, 2, 100, NONE), OUTSIDE);
        due(11, "nothing is done", x.count(4), 0);
        for (int n = 0; n < 12; n++) {
            due(11, "done", x.favour(0, 1, 7, NONE), n);
        }
        due(11, "full", x.favour(0, 1, 7, NONE), FULL);
        due(11, "full, to repay", x.favour(1, 2, 7, 0), FULL);
        due(11, "full, unlawful", x.favour(0, 2, 7, NONE), STATE);
        due(10, "lawful, though full", x.may(0, 1, 7, NONE), 1);
        due(11, "not repaid", x.deed(0, 5), NONE);
        due(11, "count(4)", x.count(4), 12);
    }

    /** A ring of four, 0 to 3, of whom two that are not side by side have not met. */
    private static FavoursGoRound square() {
        return under("-;01,12,23,30;9", PERSON, PERSON, PERSON, PERSON);
    }

    private static void deeds() {
        FavoursGoRound x = square();
        x.favour(1, 0, 1, NONE);
        x.week();
        x.favour(0, 1, 3, NONE);
        x.favour(1, 2, 4, 1);
        x.week();
        x.favour(2, 3, 5, 2);
        int[] first = {0, 1, 3, 1, NONE, 2, 0, 0};
        int[] second = {1, 2, 4, 1, 1, 3, 1, 0};
        int[] third = {2, 3, 5, 2, 2, NONE, 2, 0};
        for (int what = 0; what < 8; what++) {
            due(12, "deed(1, " + what + ")", x.deed(1, what), first[what]);
            due(12, "deed(2, " + what + ")", x.deed(2, what), second[what]);
            due(12, "deed(3, " + what + ")", x.deed(3, what), third[what]);
        }
        due(12, "no chain is home", x.count(7), 0);
        x.favour(3, 0, 5, 3);
        for (int favour = 1; favour <= 4; favour++) {
            due(12, "home", x.deed(favour, 7), 1);
        }
        due(12, "another chain is not", x.deed(0, 7), 0);
        due(12, "one chain is home", x.count(7), 1);
        x.favour(0, 1, 5, 4);
        due(12, "it stays home", x.deed(5, 7), 1);
        due(12, "ahead", x.deed(5, 6), 4);
        due(12, "one chain is home", x.count(7), 1);
        due(12, "no favour", x.deed(6, 0), UNKNOWN);
        due(12, "no favour, what", x.deed(-1, 8), UNKNOWN);
        due(12, "what", x.deed(0, 8), OUTSIDE);
        due(12, "what", x.deed(0, -1), OUTSIDE);
    }

    private static void weeksGo() {
        FavoursGoRound x = under("-;01;1");
        due(13, "week()", x.week(), 1);
        due(13, "week()", x.week(), 2);
        due(13, "count(6)", x.count(6), 2);
        due(13, "week() with no law", new FavoursGoRound().week(), STATE);
    }

    private static void ways() {
        FavoursGoRound x = square();
        x.favour(0, 1, 50, NONE);
        due(14, "next", x.way(0, 2, 0), 1);
        due(14, "next, first", x.way(0, 2, 1), 2);
        due(14, "two on", x.way(0, 3, 0), 2);
        due(14, "two on, first", x.way(0, 3, 1), 2);
        due(14, "home", x.way(0, 0, 0), 3);
        due(14, "round to who holds it", x.way(0, 1, 0), 4);
        for (int n = 0; n < 20; n++) {
            x.week();
        }
        due(14, "though late", x.way(0, 2, 0), 1);
        due(14, "nobody", x.way(0, 4, 2), UNKNOWN);
        due(14, "no favour", x.way(1, 0, 0), UNKNOWN);
        due(14, "what", x.way(0, 0, 2), OUTSIDE);
        due(14, "what", x.way(0, 0, -1), OUTSIDE);
        FavoursGoRound y = square();
        y.favour(0, 1, 50, NONE);
        y.favour(1, 2, 50, 0);
        due(14, "what, repaid", y.way(0, 0, 2), OUTSIDE);
        due(14, "repaid", y.way(0, 0, 0), STATE);
        FavoursGoRound z = under("-;01,12,13,24,34;9", PERSON, PERSON, PERSON, PERSON, PERSON);
        z.favour(0, 1, 5, NONE);
        due(14, "two ways", z.way(0, 4, 0), 2);
        due(14, "the lesser first", z.way(0, 4, 1), 2);
        FavoursGoRound miser = under("-;01,12,23;9", PERSON, PERSON, MISER, PERSON);
        miser.favour(0, 1, 5, NONE);
        due(14, "to a miser", miser.way(0, 2, 0), 1);
        due(14, "behind a miser", miser.way(0, 3, 0), NONE);
        due(14, "behind a miser", miser.way(0, 3, 1), NONE);
        FavoursGoRound kin = under("02,45;01,12,13,23;9", PERSON, PERSON, PERSON, PERSON);
        kin.favour(0, 1, 5, NONE);
        due(14, "kin of who did it come later", kin.way(0, 2, 0), 2);
        due(14, "by a stranger", kin.way(0, 2, 1), 3);
        FavoursGoRound alone = under("-;01;9", PERSON, PERSON);
        alone.favour(0, 1, 5, NONE);
        due(14, "nobody else", alone.way(0, 0, 0), NONE);
        longWays();
    }

    /** Once round a ring of six is five favours to who began, and six to who holds it. */
    private static void longWays() {
        FavoursGoRound x = under("-;01,12,23,34,45,50;9", 0, 0, 0, 0, 0, 0);
        x.favour(0, 1, 5, NONE);
        due(14, "round to who began", x.way(0, 0, 0), 5);
        due(14, "round to who holds it", x.way(0, 1, 0), 6);
        due(15, "all", x.reach(0), 6);
        // 5 and 0 both lie on the way in to the ring 1 2 3 4: back out of it one comes by 3, 4, 1
        FavoursGoRound y = under("-;50,01,12,23,34,41;9", 0, 0, 0, 0, 0, 0);
        y.favour(0, 1, 5, NONE);
        due(14, "round the ring, and out", y.way(0, 5, 0), 6);
        due(14, "round the ring, and out, first", y.way(0, 5, 1), 2);
        due(14, "round the ring", y.way(0, 1, 0), 4);
        due(14, "out of the ring", y.way(0, 0, 0), 5);
        // 1 3 2, round by 4 and 5 to 2 again, and all the way back: the longest there is
        FavoursGoRound z = under("-;01,13,23,24,25,45;9", 0, 0, 0, 0, 0, 0);
        z.favour(0, 1, 5, NONE);
        due(14, "the longest way", z.way(0, 0, 0), 8);
        due(14, "the longest way, first", z.way(0, 0, 1), 3);
        due(15, "by the longest way", z.reach(0), 6);
        due(16, "on the longest way", z.bars(0, 0), 2);
    }

    private static void reaches() {
        FavoursGoRound x = under("-;01,12,23;9", PERSON, PERSON, PERSON, PERSON, PERSON);
        x.favour(0, 1, 5, NONE);
        due(15, "a row", x.reach(0), 2);
        x.favour(1, 2, 5, 0);
        due(15, "repaid", x.reach(0), STATE);
        due(15, "shorter", x.reach(1), 1);
        x.favour(2, 3, 5, 1);
        due(15, "the end", x.reach(2), 0);
        due(15, "no favour", x.reach(3), UNKNOWN);
        due(15, "no favour", x.reach(-1), UNKNOWN);
        FavoursGoRound y = square();
        y.favour(0, 1, 5, NONE);
        due(15, "a ring", y.reach(0), 4);
        FavoursGoRound z = under("-;01,12;9", PERSON, MISER, PERSON);
        z.favour(0, 1, 5, NONE);
        due(15, "a miser", z.reach(0), 0);
    }

    private static void barring() {
        FavoursGoRound x = under("-;01,12,13,24,34,45;9", 0, 0, 0, 0, 0, 0);
        x.favour(0, 1, 5, NONE);
        due(16, "two ways", x.bars(0, 4), NONE);
        due(16, "one bars", x.bars(0, 5), 4);
        due(16, "next to him", x.bars(0, 2), NONE);
        due(16, "nobody", x.bars(0, 6), UNKNOWN);
        due(16, "no favour", x.bars(1, 0), UNKNOWN);
        x.favour(1, 2, 5, 0);
        due(16, "repaid", x.bars(0, 4), STATE);
        due(16, "repaid, nobody", x.bars(0, 6), UNKNOWN);
        FavoursGoRound row = under("-;01,12,23,34;9", 0, 0, 0, 0, 0);
        row.favour(0, 1, 5, NONE);
        due(16, "the least of two", row.bars(0, 4), 2);
        due(16, "no way", row.bars(0, 0), NONE);
        FavoursGoRound sailor = under("-;01;9", PERSON, PERSON, SAILOR, PERSON);
        sailor.favour(0, 1, 5, NONE);
        due(16, "a sailor bars", sailor.bars(0, 3), 2);
        due(17, "the steps are as they were", sailor.way(0, 3, 0), 2);
    }

    private static void meetings() {
        FavoursGoRound x = under("-;01,12,23,34;9", 0, 0, 0, 0, 0);
        x.favour(0, 1, 5, NONE);
        due(17, "at once", x.meeting(0, 4), 6 * 1 + 4);
        due(17, "two on", x.meeting(0, 3), 6 * 1 + 3);
        due(17, "next already", x.meeting(0, 2), NONE);
        // none as it is: a ring to who began, of three favours at least, as 1 2 3 0 or 1 2 4 0
        due(17, "where there is none", x.meeting(0, 0), 2);
        due(17, "nobody", x.meeting(0, 5), UNKNOWN);
        due(17, "no favour", x.meeting(1, 0), UNKNOWN);
        x.favour(1, 2, 5, 0);
        due(17, "repaid", x.meeting(0, 0), STATE);
        due(17, "repaid, nobody", x.meeting(0, 5), UNKNOWN);
        FavoursGoRound miser = under("-;01;9", PERSON, MISER, PERSON);
        miser.favour(0, 1, 5, NONE);
        due(17, "a miser meets in vain", miser.meeting(0, 2), NONE);
        // 4 is kin of 0, who did it: 1 may not do it for 4, even had they met
        FavoursGoRound kin = under("04;01,12;9", PERSON, PERSON, PERSON, MISER, PERSON);
        kin.favour(0, 1, 5, NONE);
        due(17, "by a stranger to kin", kin.meeting(0, 4), 6 * 2 + 4);
        due(17, "to a miser", kin.meeting(0, 3), 6 * 1 + 3);
        FavoursGoRound like = under("-;01,12,13;9", 0, 0, 0, 0, 0);
        like.favour(0, 1, 5, NONE);
        due(17, "of like ones the least", like.meeting(0, 0), 2);
        due(14, "it was but supposed", like.way(0, 0, 0), NONE);
    }

    private static void ringsByLength() {
        FavoursGoRound x = square();
        due(18, "two", x.rings(0, 2), 0);
        due(18, "three", x.rings(0, 3), 0);
        due(18, "four, both ways", x.rings(0, 4), 2);
        due(18, "five", x.rings(0, 5), 0);
        due(18, "six", x.rings(0, 6), 0);
        due(18, "nobody", x.rings(4, 7), UNKNOWN);
        due(18, "length 1", x.rings(0, 1), OUTSIDE);
        due(18, "length 7", x.rings(0, 7), OUTSIDE);
        FavoursGoRound all = under("-;01,02,03,12,13,23;9", 0, 0, 0, 0);
        due(18, "three of four", all.rings(0, 3), 6);
        due(18, "four of four", all.rings(0, 4), 6);
        // 0 a b c a 0 comes back to a by three others, and none of them is 0
        due(18, "five of four", all.rings(0, 5), 6);
        FavoursGoRound miser = under("-;01,12,20;9", MISER, PERSON, PERSON);
        due(18, "a miser begins none", miser.rings(0, 3), 0);
        due(18, "none by a miser", miser.rings(1, 3), 0);
        FavoursGoRound kin = under("02;01,12,23,30;9", 0, 0, 0, 0);
        due(18, "no ring of kin", kin.rings(0, 3), 0);
    }

    private static void diaries() {
        FavoursGoRound x = square();
        due(20, "forget() of nothing", x.forget(), 0);
        due(21, "nobody in it", x.fits(), 1);
        due(22, "no place", x.sure(0), UNKNOWN);
        due(19, "thanks(4)", x.thanks(4), UNKNOWN);
        due(19, "thanks(-2)", x.thanks(-2), UNKNOWN);
        due(19, "thanks(NONE)", x.thanks(NONE), 1);
        due(21, "one alone", x.fits(), 4);
        due(22, "one alone", x.sure(0), NONE);
        due(19, "thanks(NONE)", x.thanks(NONE), 2);
        due(21, "two", x.fits(), 8);
        due(19, "thanks(2)", x.thanks(2), 3);
        due(21, "three", x.fits(), 2);
        due(22, "who began", x.sure(0), 0);
        due(22, "between", x.sure(1), NONE);
        due(22, "told", x.sure(2), 2);
        due(22, "no place", x.sure(3), UNKNOWN);
        due(22, "no place", x.sure(-1), UNKNOWN);
        due(19, "thanks(1)", x.thanks(1), 4);
        due(22, "between", x.sure(1), 3);
        due(21, "four", x.fits(), 1);
        due(19, "thanks(1)", x.thanks(1), 5);
        due(21, "not twice the same", x.fits(), 0);
        due(22, "no ways", x.sure(0), NONE);
        due(22, "no ways, though told", x.sure(2), NONE);
        due(19, "thanks(0)", x.thanks(0), 6);
        due(19, "thanks(0)", x.thanks(0), 7);
        due(19, "an eighth", x.thanks(0), FULL);
        due(19, "an eighth who is nobody", x.thanks(9), UNKNOWN);
        due(20, "forget()", x.forget(), 7);
        due(20, "count(8)", x.count(8), 0);
        x.thanks(3);
        due(21, "one alone, told", x.fits(), 1);
        due(22, "one alone, told", x.sure(0), 3);
        FavoursGoRound miser = under("-;01,12;9", PERSON, MISER, PERSON);
        miser.thanks(1);
        due(21, "a miser alone", miser.fits(), 1);
        miser.thanks(NONE);
        due(21, "a miser does none", miser.fits(), 0);
        miser.forget();
        miser.thanks(0);
        miser.thanks(1);
        due(21, "a miser is last", miser.fits(), 1);
        FavoursGoRound kin = under("02;01,12,13;9", 0, 0, 0, 0);
        kin.thanks(0);
        kin.thanks(1);
        kin.thanks(NONE);
        due(21, "not for kin", kin.fits(), 1);
        due(22, "not for kin", kin.sure(2), 3);
        FavoursGoRound nobody = new FavoursGoRound();
        due(19, "thanks(NONE) with no people", nobody.thanks(NONE), 1);
        due(21, "with no people", nobody.fits(), 0);
        due(22, "with no people", nobody.sure(0), NONE);
    }

    private static int nextSeed(int seed) {
        return (int) ((1103515245L * seed + 12345L) % 2147483648L);
    }

    /** A seed of which the first draws by 2, by people, tell these. */
    private static int seedFor(int idle, int people, int whom) {
        for (int seed = 0; seed < 100000; seed++) {
            int one = nextSeed(seed);
            int two = nextSeed(one);
            if (one / 65536 % 2 == idle && two / 65536 % people == whom) {
                return seed;
            }
        }
        return 0;
    }

    private static void weeksBySeed() {
        FavoursGoRound x = square();
        due(23, "nobody owes", x.weeks(60, 5, 0), 0);
        due(23, "nobody draws", x.weeks(60, 5, 3), 5);
        x.favour(0, 1, 5, NONE);
        int does = seedFor(0, 4, 2);
        due(23, "repaid", x.weeks(1, does, 0), 2 + laterTurn(does));
        int idle = seedFor(1, 4, 2);
        due(23, "does nothing", x.weeks(1, idle, 0), 1);
        due(23, "does nothing: one draw", x.weeks(1, idle, 3), nextSeed(idle));
        int same = seedFor(0, 4, 0);
        due(23, "not to the same again", x.weeks(1, same, 0), 1);
        due(23, "not to the same again: two draws", x.weeks(1, same, 3), nextSeed(nextSeed(same)));
        due(23, "not repaid", x.weeks(1, same, 1), 1);
        due(23, "none is home", x.weeks(1, same, 2), 0);
        due(23, "it is but as it would be", x.count(4), 1);
        due(23, "it is but as it would be", x.count(6), 0);
        due(23, "weeks 0", x.weeks(0, 0, 0), OUTSIDE);
        due(23, "weeks 61", x.weeks(61, 0, 0), OUTSIDE);
        due(23, "seed -1", x.weeks(1, -1, 0), OUTSIDE);
        due(23, "what 4", x.weeks(1, 0, 4), OUTSIDE);
        due(23, "what -1", x.weeks(1, 0, -1), OUTSIDE);
        due(23, "the greatest seed", x.weeks(1, HIGH, 3) >= 0 ? 1 : 0, 1);
        FavoursGoRound none = new FavoursGoRound();
        due(23, "no law", none.weeks(1, 0, 0), STATE);
        due(23, "no law, weeks", none.weeks(61, 0, 0), OUTSIDE);
        lateAndFullWeeks();
    }

    /** 2, for whom 1 does it, has his turn later in that week: whether he passes it on to 3. */
    private static int laterTurn(int seed) {
        int third = nextSeed(nextSeed(nextSeed(seed)));
        int fourth = nextSeed(third);
        boolean second = third / 65536 % 2 == 0 && fourth / 65536 % 4 == 3;
        if (!second) {
            return 0;
        }
        int fifth = nextSeed(fourth);
        return fifth / 65536 % 2 == 0 && nextSeed(fifth) / 65536 % 4 == 0 ? 2 : 1;
    }

    private static void lateAndFullWeeks() {
        FavoursGoRound late = under("-;01,12,20;1", PERSON, PERSON, PERSON);
        late.favour(0, 1, 5, NONE);
        late.week();
        int does = seedFor(0, 3, 2);
        due(23, "in time", late.weeks(1, does, 0) > 1 ? 1 : 0, 1);
        late.week();
        due(23, "late", late.weeks(1, does, 0), 1);
        FavoursGoRound full = square();
        for (int n = 0; n < 12; n++) {
            full.favour(0, 1, 5, NONE);
        }
        int goes = seedFor(0, 4, 2);
        due(23, "full", full.weeks(60, goes, 0), 12);
        due(23, "full: not repaid", full.weeks(60, goes, 1), 12);
        due(23, "full: draws all the same", full.weeks(1, goes, 3), nextSeed(nextSeed(goes)));
    }

    private static void images() {
        FavoursGoRound x = square();
        due(24, "no law", new FavoursGoRound().image(), STATE);
        due(25, "none was kept", x.restore(), STATE);
        x.week();
        x.favour(0, 1, 5, NONE);
        x.thanks(2);
        long before = x.digest();
        due(24, "image()", x.image(), 1);
        x.week();
        x.favour(1, 2, 5, 0);
        x.forget();
        x.thanks(1);
        x.thanks(1);
        due(25, "restore()", x.restore(), 1);
        due(25, "all is as it was", x.digest(), before);
        due(25, "not repaid again", x.deed(0, 5), NONE);
        x.week();
        due(25, "restore() again", x.restore(), 1);
        x.week();
        due(24, "the latest", x.image(), 2);
        x.week();
        due(25, "the latest", x.restore(), 2);
        write(x, "?");
        x.restore();
        due(25, "the page is not of the image", x.count(9), 1);
        x.person(PERSON);
        due(25, "people came", x.restore(), STATE);
        due(24, "image() of five", x.image(), 2);
        due(25, "restore() of five", x.restore(), 2);
        x.blank();
        write(x, "-;01;1");
        x.law();
        due(25, "another law", x.restore(), STATE);
        for (int n = 0; n < 5; n++) {
            x.person(PERSON);
        }
        due(25, "another law, as many people", x.restore(), STATE);
    }

    private static void counts() {
        FavoursGoRound x = under("01,02;01,12,23;8", 0, 0, 0, 0);
        x.favour(0, 1, 5, NONE);
        x.favour(1, 0, 5, NONE);
        x.week();
        x.thanks(NONE);
        write(x, "abc");
        int[] tells = {3, 2, 8, 4, 2, 2, 1, 0, 1, 3, 1};
        for (int what = 0; what <= 10; what++) {
            due(26, "count(" + what + ")", x.count(what), tells[what]);
        }
        x.favour(0, 2, 5, 1);
        due(26, "one more", x.count(4), 3);
        due(26, "one of three is repaid", x.count(5), 2);
        due(26, "count(11)", x.count(11), OUTSIDE);
        due(26, "count(-1)", x.count(-1), OUTSIDE);
        due(26, "count(LOW)", x.count(LOW), OUTSIDE);
    }

    private static long over(long h, int... numbers) {
        long all = h;
        for (int number : numbers) {
            all = 31 * all + number;
        }
        return all;
    }

    private static void digests() {
        FavoursGoRound x = under("-;01,12,20;3", PERSON, CAPTAIN, PERSON);
        x.favour(0, 1, 5, NONE);
        x.favour(1, 2, 6, 0);
        x.week();
        x.thanks(NONE);
        write(x, "~1");
        long h = 743;
        h = over(h, 0, 1, 0, 0, 0, 3, 2, 2, 0, 2);
        h = over(h, 4, 1, 1, 0, 0, 6, 2, 2, 0, 2);
        h = over(h, 0, 0, 1, 1, 0, 3, 2, 2, 0, 2);
        h = over(h, 0, 1, 5, 0, NONE, 1, 0, 0);
        h = over(h, 1, 2, 6, 0, 0, NONE, 1, 0);
        h = over(h, 3);
        h = over(h, 3, 126, 49);
        h = over(h, 3, 0, 3, 3, 2, 1, 1, 0, 1, 2, 1);
        due(27, "digest()", x.digest(), h);
        due(27, "digest() again", x.digest(), h);
    }
}
