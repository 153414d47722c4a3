/** Edges of the law and its page: promises 1 to 6, and the terms of a law. */
final class LawEdges extends Edges {
    private static final String FIVE = "01,02,03,04,05";
    private static final String TWELVE = "01,02,03,04,05,12,13,14,15,23,24,25";
    /** The longest there is: 52 letters. */
    private static final String LONGEST = FIVE + ";" + TWELVE + ";9";

    static void all() {
        sentence(TERMS, "KIN, \";\", MET, \";\", a digit TERM (1 to 9 weeks)", LawEdges::threeParts);
        sentence(TERMS, "a digit TERM (1 to 9 weeks)", LawEdges::termsOfALaw);
        sentence(TERMS, "KIN: \"-\" or one to five pairs with \",\" between", LawEdges::pairsOfKin);
        sentence(TERMS, "MET: one to twelve pairs with \",\" between", LawEdges::pairsOfMet);
        sentence(TERMS, "each pair two unlike digits (0 to 5: PEOPLE", LawEdges::digits);
        sentence(TERMS, "of KIN, of MET no two pairs of the same ones)", LawEdges::noPairTwice);
        sentence(TERMS, "Who are KIN know each other, and who have MET.", LawEdges::whoKnowsWhom);
        sentence(TERMS, "At first there is no LAW.", LawEdges::noLawAtFirst);
        sentence(1, "No LAW", LawEdges::noLawAtFirst);
        sentence(1, "week 0.", LawEdges::weekZeroAtFirst);
        sentence(2, "A letter comes behind THE PAGE, by its code: how many THE PAGE has.", LawEdges::lettersComeBehind);
        sentence(2, "OUTSIDE: code (1 to 126)", LawEdges::codes);
        sentence(2, "FULL: above 54.", LawEdges::fullPage);
        sentence(3, "THE PAGE is empty: how many letters it had.", LawEdges::blankPage);
        sentence(4, "The place (from 0) of the first letter of THE PAGE that no LAW has there, behind those ahead of it",
            LawEdges::whatMayStandWhere);
        sentence(4, "The place (from 0) of the first letter", LawEdges::firstFault);
        sentence(4, "(a first digit of a pair may stand though all its pairs are told)", LawEdges::firstDigitOfNoPair);
        sentence(4, "how many letters it has, if there is none.", LawEdges::noFault);
        sentence(5, "THE PAGE is read as THE LAW", LawEdges::pageIsRead);
        sentence(5, "(another one is gone, with PEOPLE, FAVOURS, the DIARY; it is week 0)", LawEdges::otherLawIsGone);
        sentence(5, "how many pairs have MET", LawEdges::howManyHaveMet);
        sentence(5, "THE PAGE is empty then.", LawEdges::pageIsEmptyThen);
        sentence(5, "STATE: it is none.", LawEdges::noLaw);
        sentence(6, "What there is between two PEOPLE: 3 KIN, 2 they know each other, and are no KIN, 0 nothing.",
            LawEdges::betweenTwo);
        sentence(6, "UNKNOWN: a, b, or they are the same.", LawEdges::betweenUnknown);
    }

    private static void isLaw(String text) {
        due("fault() of " + text, faultOf(text), text.length());
        due("whether " + text + " is a law", lawOf(text) > 0 ? 1 : 0, 1);
    }

    private static void isNoLaw(String text) {
        due("law() of " + text, lawOf(text), STATE);
    }

    /** Every code is tried behind the text: these alone may stand there. */
    private static void mayFollow(String text, String signs) {
        StringBuilder found = new StringBuilder();
        for (char code = 1; code <= 126; code++) {
            int fault = faultOf(text + code);
            if (fault == text.length() + 1) {
                found.append(code);
            } else {
                due("fault() of " + text + code, fault, text.length());
            }
        }
        if (!found.toString().equals(signs)) {
            fail("behind '" + text + "' may stand '" + found + "', due is '" + signs + "'");
        }
    }

    private static void threeParts() {
        isLaw("-;01;1");
        isLaw("01;01;1");
        isNoLaw("");
        isNoLaw("-");
        isNoLaw("-;01");
        isNoLaw("-;01;");
        isNoLaw("-;1");
        isNoLaw("01;1");
        isNoLaw("-:01;1");
        isNoLaw("-;01:1");
        isNoLaw("-;01,1");
        isNoLaw("-;01;1;");
        isNoLaw(" -;01;1");
    }

    private static void termsOfALaw() {
        for (int term = 1; term <= 9; term++) {
            FavoursGoRound x = under("-;01;" + term, PERSON);
            due("the term", x.count(2), term);
            due("his term", x.about(0, 5), term);
        }
        mayFollow("-;01;", "123456789");
        mayFollow("-;01;9", "");
        isNoLaw("-;01;0");
        isNoLaw("-;01;:");
        isNoLaw("-;01;10");
        isNoLaw("-;01;01");
    }

    private static int kinOf(String law) {
        return under(law).count(1);
    }

    private static void pairsOfKin() {
        due("no pair", kinOf("-;01;1"), 0);
        due("one pair", kinOf("23;01;1"), 1);
        due("five pairs", kinOf(FIVE + ";01;1"), 5);
        isNoLaw(FIVE + ",12;01;1");
        isNoLaw(";01;1");
        isNoLaw("--;01;1");
        isNoLaw("-,01;01;1");
        isNoLaw("01,-;01;1");
        isNoLaw(",01;01;1");
        isNoLaw("01,;01;1");
        isNoLaw("01,,02;01;1");
        isNoLaw("0102;01;1");
        mayFollow("", "-012345");
        mayFollow("-", ";");
        mayFollow("01", ",;");
        mayFollow("01,02,03,04", ",;");
        mayFollow(FIVE, ";");
    }

    private static void pairsOfMet() {
        due("one pair", lawOf("-;01;1"), 1);
        due("twelve pairs", lawOf("-;" + TWELVE + ";1"), 12);
        isNoLaw("-;" + TWELVE + ",34;1");
        isNoLaw("-;;1");
        isNoLaw("-;-;1");
        isNoLaw("-;,01;1");
        isNoLaw("-;01,;1");
        isNoLaw("-;01,,02;1");
        isNoLaw("-;0102;1");
        mayFollow("-;", "012345");
        mayFollow("01;", "012345");
        mayFollow("-;01", ",;");
        mayFollow("-;01,02,03,04,05,12,13,14,15,23,24", ",;");
        mayFollow("-;" + TWELVE, ";");
    }

    private static void digits() {
        isLaw("05;50;1");
        isLaw("50;05;1");
        for (char digit = '0'; digit <= '5'; digit++) {
            isNoLaw("" + digit + digit + ";01;1");
            isNoLaw("-;" + digit + digit + ";1");
        }
        isNoLaw("06;01;1");
        isNoLaw("60;01;1");
        isNoLaw("0/;01;1");
        isNoLaw("/0;01;1");
        isNoLaw("-;56;1");
        isNoLaw("-;65;1");
        isNoLaw("0;01;1");
        isNoLaw("012;01;1");
        isNoLaw("-;0;1");
        isNoLaw("-;012;1");
        mayFollow("0", "12345");
        mayFollow("3", "01245");
        mayFollow("5", "01234");
        mayFollow("-;0", "12345");
        mayFollow("-;5", "01234");
    }

    private static void noPairTwice() {
        isNoLaw("01,01;01;1");
        isNoLaw("01,10;01;1");
        isNoLaw("01,23,10;01;1");
        isNoLaw("-;45,45;1");
        isNoLaw("-;45,54;1");
        isNoLaw("-;45,01,12,23,54;1");
        isLaw("01;01;1");
        isLaw("01;10;1");
        isLaw("01,12,20;01,12,20;1");
        mayFollow("01,0", "2345");
        mayFollow("01,1", "2345");
        mayFollow("01,12,1", "345");
        mayFollow("01;0", "12345");
        mayFollow("01;1", "02345");
        mayFollow("-;15,25,35,5", "04");
    }

    private static void whoKnowsWhom() {
        FavoursGoRound x = under("01;23;1", 0, 0, 0, 0, 0);
        due("by kin", x.may(0, 1, 1, NONE), 1);
        due("by kin, the other way", x.may(1, 0, 1, NONE), 1);
        due("who have met", x.may(2, 3, 1, NONE), 1);
        due("who have met, the other way", x.may(3, 2, 1, NONE), 1);
        due("neither", x.may(1, 2, 1, NONE), 0);
        due("neither", x.may(4, 0, 1, NONE), 0);
        // 0 and 1, 1 and 2 know each other, and yet 0 does not know 2
        FavoursGoRound y = under("01;12;1", 0, 0, 0);
        due("it does not go on", y.may(0, 2, 1, NONE), 0);
    }

    private static void noLawAtFirst() {
        FavoursGoRound x = new FavoursGoRound();
        due("the term", x.count(2), 0);
        due("laws read", x.count(10), 0);
        due("a person", x.person(PERSON), STATE);
        due("a week", x.week(), STATE);
        due("weeks", x.weeks(1, 0, 0), STATE);
        due("an image", x.image(), STATE);
        due("the image", x.restore(), STATE);
        for (int what = 0; what <= 10; what++) {
            due("count(" + what + ")", x.count(what), 0);
        }
    }

    private static void weekZeroAtFirst() {
        FavoursGoRound x = new FavoursGoRound();
        due("the week", x.count(6), 0);
        write(x, "-;01;1");
        x.law();
        due("the first image", x.image(), 0);
        due("the next week", x.week(), 1);
    }

    private static void lettersComeBehind() {
        FavoursGoRound x = new FavoursGoRound();
        String law = "-;01;1";
        for (int n = 0; n < law.length(); n++) {
            due("letter " + n, x.letter(law.charAt(n)), n + 1);
            due("letters of the page", x.count(9), n + 1);
        }
        due("in their order they are a law", x.law(), 1);
        due("the first one of a new page", x.letter('0'), 1);
    }

    private static void codes() {
        FavoursGoRound x = new FavoursGoRound();
        due("the least", x.letter(1), 1);
        due("the greatest", x.letter(126), 2);
        due("none of a law, and yet a letter", x.letter('z'), 3);
        for (int code : new int[] {0, 127, -1, 128, 255, 256, 65536 + 48, LOW, HIGH}) {
            refused("letter(" + code + ")", Edges::busy, y -> y.letter(code), OUTSIDE);
        }
    }

    private static void fullPage() {
        FavoursGoRound x = new FavoursGoRound();
        for (int n = 1; n <= 53; n++) {
            x.letter('0');
        }
        due("the 54th", x.letter('0'), 54);
        due("the 55th", x.letter('0'), FULL);
        due("the 56th", x.letter('0'), FULL);
        due("it has", x.blank(), 54);
        refused("letter('-') on a full page", Edges::full, y -> y.letter('-'), FULL);
        refused("letter(0) on a full page", Edges::full, y -> y.letter(0), OUTSIDE);
        refused("letter(127) on a full page", Edges::full, y -> y.letter(127), OUTSIDE);
    }

    private static void blankPage() {
        FavoursGoRound x = new FavoursGoRound();
        due("of an empty one", x.blank(), 0);
        x.letter('7');
        due("of one letter", x.blank(), 1);
        due("it is empty", x.count(9), 0);
        due("again", x.blank(), 0);
        due("fault() of none", x.fault(), 0);
        due("of a full one", full().blank(), 54);
        FavoursGoRound y = full();
        y.blank();
        due("a letter comes to it", y.letter('0'), 1);
        FavoursGoRound gone = page("-;01;1");
        gone.blank();
        write(gone, "-;01;");
        due("what it had is gone", gone.law(), STATE);
        due("what it had is gone", gone.fault(), 5);
        FavoursGoRound z = busy();
        z.blank();
        write(z, "-;0");
        same("the same page again,", z, busy());
    }

    private static void whatMayStandWhere() {
        mayFollow("01,", "012345");
        mayFollow("-;01,", "012345");
        mayFollow("01,02;01,0", "2345");
        mayFollow("-;01;", "123456789");
        mayFollow("-;01;1", "");
        mayFollow(LONGEST, "");
        due("the longest law", LONGEST.length(), 52);
    }

    private static void firstFault() {
        due("at the very first", faultOf("x-;01;1"), 0);
        due("at the very first, alone", faultOf("6"), 0);
        due("at the second", faultOf("00"), 1);
        due("at the last", faultOf("-;01;0"), 5);
        due("one behind all", faultOf("-;01;11"), 6);
        due("the first of two", faultOf("-;00;0"), 3);
        due("what is behind it is not looked at", faultOf("-;016;1"), 4);
        due("on a full page", faultOf(LONGEST + "xx"), 52);
        due("on a full page of one letter", full().fault(), 1);
        onlyTells("fault()", Edges::busy, FavoursGoRound::fault);
        onlyTells("fault() of a whole law", () -> page("-;01;1"), FavoursGoRound::fault);
    }

    private static void firstDigitOfNoPair() {
        mayFollow("-;" + FIVE + ",", "012345");
        due("it stands", faultOf("-;" + FIVE + ",0"), 18);
        mayFollow("-;" + FIVE + ",0", "");
        due("what is behind it does not", faultOf("-;" + FIVE + ",01"), 18);
        due("nor does the end", faultOf("-;" + FIVE + ",0;1"), 18);
        mayFollow("-;05,15,25,35,45,5", "");
        isNoLaw("-;" + FIVE + ",0");
    }

    private static void noFault() {
        due("an empty page", faultOf(""), 0);
        for (int n = 1; n <= LONGEST.length(); n++) {
            due("a beginning of " + n, faultOf(LONGEST.substring(0, n)), n);
        }
    }

    private static void pageIsRead() {
        FavoursGoRound x = under("35;04,25;7", 0, 0, 0, 0, 0, 0);
        due("pairs of kin", x.count(1), 1);
        due("the term", x.count(2), 7);
        due("laws read", x.count(10), 1);
        for (int a = 0; a < 6; a++) {
            for (int b = 0; b < 6; b++) {
                int sum = 10 * Math.min(a, b) + Math.max(a, b);
                if (a != b) {
                    due("between " + a + " and " + b, x.between(a, b), sum == 35 ? 3 : sum == 4 || sum == 25 ? 2 : 0);
                }
            }
        }
    }

    private static void otherLawIsGone() {
        FavoursGoRound x = full();
        weeks(x, 3);
        x.blank();
        write(x, "-;45;2");
        due("law()", x.law(), 1);
        due("term", x.count(2), 2);
        int[] none = {3, 4, 5, 6, 7, 8, 9};
        for (int what : none) {
            due("count(" + what + ")", x.count(what), 0);
        }
        due("laws read", x.count(10), 2);
        due("nobody", x.about(0, 0), UNKNOWN);
        due("no favour", x.deed(0, 0), UNKNOWN);
        due("nobody in the diary", x.sure(0), UNKNOWN);
        due("nobody in the diary fits", x.fits(), 1);
        due("the next person", x.person(MISER), 0);
        due("the next one", x.person(PERSON), 1);
        due("strangers now", x.between(0, 1), 0);
        due("he owes nothing", x.about(0, 3), 0);
        due("the next in the diary", x.thanks(1), 1);
        due("the next week", x.week(), 1);
        FavoursGoRound kin = under("01;12;1", 0, 0, 0);
        write(kin, "-;12;1");
        kin.law();
        kin.person(PERSON);
        kin.person(PERSON);
        due("kin of the other law are none", kin.between(0, 1), 0);
    }

    private static void howManyHaveMet() {
        for (int many = 1; many <= 12; many++) {
            String met = TWELVE.substring(0, 3 * many - 1);
            due(many + " pairs", lawOf("-;" + met + ";1"), many);
            due(many + " pairs, and kin", lawOf(FIVE + ";" + met + ";1"), many);
        }
        due("those of kin are not counted, but where they are told again", lawOf("01,02;01,02,03;1"), 3);
    }

    private static void pageIsEmptyThen() {
        FavoursGoRound x = page(LONGEST);
        x.law();
        due("letters", x.count(9), 0);
        due("blank()", x.blank(), 0);
        due("law() of nothing", x.law(), STATE);
        due("a letter", x.letter('-'), 1);
        FavoursGoRound y = under("-;01;1");
        write(y, "-;01;");
        due("the term that was read is gone", y.law(), STATE);
    }

    private static void noLaw() {
        refused("law() of an empty page", FavoursGoRound::new, FavoursGoRound::law, STATE);
        refused("law() of an empty page under a law", Edges::square, FavoursGoRound::law, STATE);
        refused("law() of a beginning", Edges::busy, FavoursGoRound::law, STATE);
        refused("law() of a beginning with no law", () -> page("01,02;01;"), FavoursGoRound::law, STATE);
        refused("law() of a fault", Edges::full, FavoursGoRound::law, STATE);
        refused("law() of too much", () -> page("-;01;11"), FavoursGoRound::law, STATE);
        refused("law() of too much, full", () -> page(LONGEST + "99"), FavoursGoRound::law, STATE);
        FavoursGoRound x = page("-;01;");
        x.law();
        x.letter('4');
        due("law() as soon as it is one", x.law(), 1);
        due("it was read once", x.count(10), 1);
    }

    private static void betweenTwo() {
        FavoursGoRound x = under("01,23;12,32;4", PERSON, PERSON, PERSON, MISER, WIDOW, SAILOR);
        due("kin", x.between(0, 1), 3);
        due("kin, the other way", x.between(1, 0), 3);
        due("met", x.between(1, 2), 2);
        due("met, the other way", x.between(2, 1), 2);
        due("kin who met", x.between(2, 3), 3);
        due("nothing", x.between(0, 4), 0);
        due("nothing, the other way", x.between(4, 0), 0);
        due("a sailor", x.between(5, 0), 2);
        due("a sailor is known", x.between(4, 5), 2);
        due("a sailor who is kin", under("01;23;1", SAILOR, PERSON).between(0, 1), 3);
        onlyTells("between(0, 1)", Edges::busy, y -> y.between(0, 1));
    }

    private static void betweenUnknown() {
        FavoursGoRound x = busy();
        due("the last one is known", x.between(4, 3), 2);
        for (int nobody : new int[] {NONE, 5, 6, LOW, HIGH}) {
            refused("between(" + nobody + ", 0)", Edges::busy, y -> y.between(nobody, 0), UNKNOWN);
            refused("between(0, " + nobody + ")", Edges::busy, y -> y.between(0, nobody), UNKNOWN);
            refused("between(" + nobody + ", the same)", Edges::busy, y -> y.between(nobody, nobody), UNKNOWN);
        }
        for (int who = 0; who < 5; who++) {
            due("the same", x.between(who, who), UNKNOWN);
        }
        due("the sixth of six", full().between(5, 0), 2);
        due("a seventh", full().between(6, 0), UNKNOWN);
        due("with no law", new FavoursGoRound().between(0, 1), UNKNOWN);
    }
}
