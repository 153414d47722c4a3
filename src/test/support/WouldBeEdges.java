/** Edges of what would be: promises 14 to 18, and the terms of ways and rings. */
final class WouldBeEdges extends Edges {
    private static final int[] NOBODY_OF_FIVE = {NONE, 5, 6, LOW, HIGH};
    private static final int[] NO_FAVOUR_OF_FOUR = {NONE, 4, 12, LOW, HIGH};

    static void all() {
        waysAndReach();
        barsAndMeetings();
        ringsByLength();
    }

    private static void waysAndReach() {
        sentence(TERMS, "A WAY for a favour that is not REPAID, to one: the fewest favours (1 to 8), each REPAYING the one "
            + "ahead, the first one that told, by which one is done FOR him", WouldBeEdges::lengthsOfWays);
        sentence(TERMS, "(whatever LATE and WORTH", WouldBeEdges::whateverLateAndWorth);
        sentence(TERMS, "who does each one is he FOR whom the one ahead was done, no MISER", WouldBeEdges::waysOfMisers);
        sentence(TERMS, "he knows him FOR whom it is", WouldBeEdges::waysOfStrangers);
        sentence(TERMS, "and that is neither he who did the one ahead nor his KIN)", WouldBeEdges::waysOfKin);
        sentence(TERMS, "FOR whom the first one is: of all such rows the least.", WouldBeEdges::leastFirst);
        sentence(14, "A WAY: what = 0 how many favours, 1 FOR whom the first one is", WouldBeEdges::whatOfAWay);
        sentence(14, "NONE: there is none.", WouldBeEdges::noWay);
        sentence(14, "UNKNOWN: favour, person", WouldBeEdges::wayUnknown);
        sentence(14, "OUTSIDE", WouldBeEdges::wayOutside);
        sentence(14, "STATE: it is REPAID.", WouldBeEdges::wayRepaid);
        sentence(TERMS, "REACH: FOR how many PEOPLE one could be done so, by some WAY of 8 favours at most.",
            WouldBeEdges::howManyReached);
        sentence(15, "REACH.", WouldBeEdges::howManyReached);
        sentence(15, "UNKNOWN", WouldBeEdges::reachUnknown);
        sentence(15, "STATE: it is REPAID.", WouldBeEdges::reachRepaid);
    }

    private static void barsAndMeetings() {
        sentence(TERMS, "BARS: the least one", WouldBeEdges::leastBar);
        sentence(TERMS, "(not he himself, nor he FOR whom the told favour was done)", WouldBeEdges::whoIsNoBar);
        sentence(TERMS, "who, were he a MISER, would let no WAY be (there is one as it is).", WouldBeEdges::noWayBesides);
        sentence(16, "BARS; NONE: nobody, or there is no WAY.", WouldBeEdges::noBar);
        sentence(16, "UNKNOWN: favour, person", WouldBeEdges::barsUnknown);
        sentence(16, "STATE: it is REPAID.", WouldBeEdges::barsRepaid);
        sentence(TERMS, "MEETING: of all two who do not know each other those who, had they MET, "
            + "would let a WAY be as short as can be", WouldBeEdges::bestMeeting);
        sentence(TERMS, "if that is shorter than it is (or there is none as it is)", WouldBeEdges::shorterThanItIs);
        sentence(TERMS, "6 times the lesser number and the greater one", WouldBeEdges::numbersOfMeetings);
        sentence(TERMS, "of like ones the least.", WouldBeEdges::leastMeeting);
        sentence(17, "MEETING; NONE: none.", WouldBeEdges::noMeeting);
        sentence(17, "UNKNOWN: favour, person", WouldBeEdges::meetingUnknown);
        sentence(17, "STATE: it is REPAID.", WouldBeEdges::meetingRepaid);
    }

    private static void ringsByLength() {
        sentence(TERMS, "RINGS of one by a length (2 to 6): how many CHAINS of so many favours there could be that one "
            + "begins, FREE, and of which the last one is FOR him", WouldBeEdges::ringsOfAll);
        sentence(TERMS, "none ahead of it", WouldBeEdges::homeButOnce);
        sentence(TERMS, "(as PEOPLE follow one another: each does as in a WAY", WouldBeEdges::ringsAsWays);
        sentence(TERMS, "he who begins is no MISER, and knows him FOR whom it is).", WouldBeEdges::whoBegins);
        sentence(18, "RINGS.", WouldBeEdges::ringsOfAll);
        sentence(18, "UNKNOWN", WouldBeEdges::ringsUnknown);
        sentence(18, "OUTSIDE: length.", WouldBeEdges::ringsOutside);
    }

    /** People who have met as told, and a first favour by 0 FOR 1. */
    private static FavoursGoRound begun(String law, int people) {
        FavoursGoRound x = under(law);
        for (int n = 0; n < people; n++) {
            x.person(PERSON);
        }
        x.favour(0, 1, 5, NONE);
        return x;
    }

    private static FavoursGoRound row() {
        return begun("-;01,12,23,34,45;9", 6);
    }

    private static FavoursGoRound ring() {
        return begun("-;01,12,23,34,45,50;9", 6);
    }

    /** A row 0 1 3 2 into a ring 2 4 5, by which one comes all the way back. */
    private static FavoursGoRound loop() {
        return begun("-;01,13,23,24,25,45;9", 6);
    }

    // ---- ways

    private static void lengthsOfWays() {
        FavoursGoRound x = row();
        due("1", x.way(0, 2, 0), 1);
        due("2", x.way(0, 3, 0), 2);
        due("3", x.way(0, 4, 0), 3);
        due("4", x.way(0, 5, 0), 4);
        FavoursGoRound y = ring();
        due("5, to who began", y.way(0, 0, 0), 5);
        due("6, to who owes it", y.way(0, 1, 0), 6);
        FavoursGoRound z = loop();
        due("7", z.way(0, 1, 0), 7);
        due("8", z.way(0, 0, 0), 8);
        due("7, of kin", begun("03,04,15,23,24;01,05;9", 6).way(0, 1, 0), 7);
        due("8, of kin", begun("02,15,34;01,05,23,24;9", 6).way(0, 1, 0), 8);
        due("the fewest of two ways", begun("-;01,12,23,14,45,53;9", 6).way(0, 3, 0), 2);
        due("behind a chain of twelve", full().way(11, 1, 0), 1);
        due("behind a chain of twelve, all round", full().way(11, 0, 0), 6);
        FavoursGoRound told = square();
        told.favour(0, 1, 5, NONE);
        told.favour(2, 1, 5, NONE);
        due("the first one repays that told", told.way(0, 2, 0), 1);
        due("the first one repays that told", told.way(1, 2, 0), 3);
    }

    private static void whateverLateAndWorth() {
        FavoursGoRound x = under("-;01,12,23;1", PERSON, PERSON, PERSON, PERSON);
        x.favour(0, 1, 99, NONE);
        due("worth 99", x.way(0, 3, 0), 2);
        weeks(x, 1);
        due("in the last week", x.way(0, 3, 0), 2);
        weeks(x, 1);
        due("late", x.way(0, 3, 0), 2);
        due("late", x.reach(0), 2);
        weeks(x, 50);
        due("very late", x.way(0, 3, 1), 2);
    }

    private static void waysOfMisers() {
        FavoursGoRound x = under("-;01,12,23;9", PERSON, PERSON, MISER, PERSON);
        x.favour(0, 1, 5, NONE);
        due("to a miser", x.way(0, 2, 0), 1);
        due("by a miser", x.way(0, 3, 0), NONE);
        FavoursGoRound y = under("-;01,12;9", PERSON, MISER, PERSON);
        y.favour(0, 1, 5, NONE);
        due("a miser owes it", y.way(0, 2, 0), NONE);
        due("a miser owes it", y.way(0, 2, 1), NONE);
        FavoursGoRound z = under("-;01,12,23,14,45,53;9", PERSON, PERSON, MISER, PERSON, PERSON, PERSON);
        z.favour(0, 1, 5, NONE);
        due("past a miser", z.way(0, 3, 0), 3);
        due("past a miser, first", z.way(0, 3, 1), 4);
    }

    private static void waysOfStrangers() {
        FavoursGoRound x = begun("-;01,23;9", 4);
        due("to a stranger", x.way(0, 2, 0), NONE);
        due("by kin", begun("12;01;9", 3).way(0, 2, 0), 1);
        FavoursGoRound y = under("-;01;9", PERSON, PERSON, SAILOR, PERSON);
        y.favour(0, 1, 5, NONE);
        due("to a sailor", y.way(0, 2, 0), 1);
        due("by a sailor", y.way(0, 3, 0), 2);
    }

    private static void waysOfKin() {
        due("to who did that told", row().way(0, 0, 0), NONE);
        due("to who did the one ahead", row().way(0, 1, 0), NONE);
        due("to who did that told, by others", square4(0), 3);
        due("to kin of who did that told", begun("02;01,12;9", 3).way(0, 2, 0), NONE);
        due("to kin of his, later on", begun("02;01,12,13,32;9", 4).way(0, 2, 0), 2);
        // 3 is kin of 0 and of 1: of 1 he has it not, and of 2 not, since 1 did the one ahead
        due("to kin of who did the one ahead", begun("13,03;01,12,23;9", 4).way(0, 3, 0), NONE);
        due("to one's own kin", begun("13;01;9", 4).way(0, 3, 0), 1);
        due("to kin of the kin", begun("04,42;01,12;9", 5).way(0, 2, 0), 1);
    }

    private static int square4(int person) {
        FavoursGoRound x = square();
        x.favour(0, 1, 5, NONE);
        return x.way(0, person, 0);
    }

    private static void leastFirst() {
        FavoursGoRound x = begun("-;01,15,14,13,53,42,52;9", 6);
        due("by 4, or by 5", x.way(0, 2, 1), 4);
        due("by 5 is as short", x.way(0, 2, 0), 2);
        due("by one favour, it is he", begun("-;01,12,13,14,15,52;9", 6).way(0, 2, 1), 2);
        // the least of the fewest: by 2 it is one more
        FavoursGoRound y = begun("-;01,12,24,45,13,35;9", 6);
        due("the fewest", y.way(0, 5, 0), 2);
        due("not the least of longer ones", y.way(0, 5, 1), 3);
        // 2 and 3 both come to 4 and go on to 5: the row by 2 is the least
        FavoursGoRound z = begun("-;01,13,12,34,24,45;9", 6);
        due("two rows to the same one ahead", z.way(0, 5, 1), 2);
        // 1 5 2 0 1 and 1 4 3 0 1: the row by 4 is the least, though 2 is less than 3
        FavoursGoRound both = begun("-;01,15,52,20,14,43,30;9", 6);
        due("to who began, of three", both.way(0, 0, 0), 3);
        due("to who began, first", both.way(0, 0, 1), 4);
        due("to who owes it, of four", both.way(0, 1, 0), 4);
        due("to who owes it, first", both.way(0, 1, 1), 4);
        due("he alone is both", row().way(0, 2, 1), 2);
        due("first of the longest", loop().way(0, 0, 1), 3);
    }

    private static void whatOfAWay() {
        FavoursGoRound x = busy();
        due("how many", x.way(3, 2, 0), 2);
        due("for whom the first", x.way(3, 2, 1), 1);
        due("one alone is the first, too", x.way(3, 4, 0), 1);
        due("one alone is the first, too", x.way(3, 4, 1), 4);
        onlyTells("way(3, 1, 0)", Edges::busy, y -> y.way(3, 1, 0));
        onlyTells("way(3, 1, 1)", Edges::busy, y -> y.way(3, 1, 1));
    }

    private static void noWay() {
        due("0", row().way(0, 0, 0), NONE);
        due("1", row().way(0, 0, 1), NONE);
        due("of two people", begun("-;01;9", 2).way(0, 0, 0), NONE);
        due("of two people", begun("-;01;9", 2).way(0, 1, 0), NONE);
        onlyTells("way(2, 0, 0) of a miser", Edges::busy, x -> x.way(2, 0, 0));
    }

    private static void wayUnknown() {
        for (int nobody : NOBODY_OF_FIVE) {
            refused("way(3, " + nobody + ", 0)", Edges::busy, x -> x.way(3, nobody, 0), UNKNOWN);
            refused("way(3, " + nobody + ", 2)", Edges::busy, x -> x.way(3, nobody, 2), UNKNOWN);
            refused("way(0, " + nobody + ", 0), repaid", Edges::busy, x -> x.way(0, nobody, 0), UNKNOWN);
        }
        for (int favour : NO_FAVOUR_OF_FOUR) {
            refused("way(" + favour + ", 0, 0)", Edges::busy, x -> x.way(favour, 0, 0), UNKNOWN);
            refused("way(" + favour + ", 0, 2)", Edges::busy, x -> x.way(favour, 0, 2), UNKNOWN);
        }
        due("the last person, the last favour", busy().way(3, 4, 0), 1);
        due("with no law", new FavoursGoRound().way(0, 0, 0), UNKNOWN);
    }

    private static void wayOutside() {
        for (int what : new int[] {-1, 2, LOW, HIGH}) {
            refused("way(3, 1, " + what + ")", Edges::busy, x -> x.way(3, 1, what), OUTSIDE);
            refused("way(0, 1, " + what + "), repaid", Edges::busy, x -> x.way(0, 1, what), OUTSIDE);
        }
    }

    private static void wayRepaid() {
        for (int what = 0; what < 2; what++) {
            int of = what;
            refused("way(0, 1, " + what + ")", Edges::busy, x -> x.way(0, 1, of), STATE);
            refused("way(1, 1, " + what + ")", Edges::busy, x -> x.way(1, 1, of), STATE);
        }
        FavoursGoRound x = square();
        x.favour(0, 1, 5, NONE);
        due("not yet", x.way(0, 2, 0), 1);
        x.favour(1, 2, 5, 0);
        due("now", x.way(0, 2, 0), STATE);
        due("the one that repays it is not", x.way(1, 3, 0), 1);
    }

    // ---- reach

    private static void howManyReached() {
        FavoursGoRound none = under("-;01,12;9", PERSON, MISER, PERSON);
        none.favour(0, 1, 5, NONE);
        due("none", none.reach(0), 0);
        due("none, of two", begun("-;01;9", 2).reach(0), 0);
        due("one", begun("-;01,12;9", 3).reach(0), 1);
        due("a row", row().reach(0), 4);
        due("all, by ways of 6 at most", ring().reach(0), 6);
        due("all, by ways of 8 at most", loop().reach(0), 6);
        due("all, by ways of 8 at most, of kin", begun("02,15,34;01,05,23,24;9", 6).reach(0), 6);
        FavoursGoRound miser = under("-;01,12,23;9", PERSON, PERSON, MISER, PERSON);
        miser.favour(0, 1, 5, NONE);
        due("a miser is reached, and nobody by him", miser.reach(0), 1);
        due("behind a chain of twelve", full().reach(11), 6);
        onlyTells("reach(3)", Edges::busy, x -> x.reach(3));
    }

    private static void reachUnknown() {
        for (int favour : NO_FAVOUR_OF_FOUR) {
            refused("reach(" + favour + ")", Edges::busy, x -> x.reach(favour), UNKNOWN);
        }
        due("a thirteenth", full().reach(12), UNKNOWN);
        due("with no law", new FavoursGoRound().reach(0), UNKNOWN);
    }

    private static void reachRepaid() {
        refused("reach(0)", Edges::busy, x -> x.reach(0), STATE);
        refused("reach(10) of twelve", Edges::full, x -> x.reach(10), STATE);
    }

    // ---- bars

    private static void leastBar() {
        due("2, or 3, or 4", row().bars(0, 5), 2);
        due("2 alone", row().bars(0, 3), 2);
        due("by others: 5 alone", begun("-;01,15,52;9", 6).bars(0, 2), 5);
        due("5, or 3, to 2", begun("-;01,15,53,32;9", 6).bars(0, 2), 3);
        due("who did it", square2().bars(0, 1), 0);
    }

    private static FavoursGoRound square2() {
        FavoursGoRound x = square();
        x.favour(0, 1, 5, NONE);
        return x;
    }

    private static void whoIsNoBar() {
        FavoursGoRound x = under("-;01,02,23;9", 0, 0, 0, 0);
        x.favour(1, 0, 5, NONE);
        due("0 owes it: not he, but 2", x.bars(0, 3), 2);
        due("0 owes it: nobody", x.bars(0, 2), NONE);
        FavoursGoRound y = square();
        y.favour(1, 0, 5, NONE);
        due("to 0, who owes it: not he, but 1", y.bars(0, 0), 1);
        due("to 1, who did it: not he, but 2", y.bars(0, 1), 2);
    }

    private static void noWayBesides() {
        due("a longer way is a way, too", begun("-;01,12,23,14,45,53;9", 6).bars(0, 3), NONE);
        due("behind both ways", begun("-;01,12,23,14,43,35;9", 6).bars(0, 5), 3);
        FavoursGoRound sailor = under("-;01;9", PERSON, PERSON, SAILOR, PERSON);
        sailor.favour(0, 1, 5, NONE);
        due("a sailor", sailor.bars(0, 3), 2);
        FavoursGoRound miser = under("-;01,12,23,31;9", PERSON, PERSON, PERSON, MISER);
        miser.favour(0, 1, 5, NONE);
        due("a miser at the end", miser.bars(0, 3), NONE);
        due("on the longest way", loop().bars(0, 0), 2);
        onlyTells("bars(3, 1)", Edges::busy, x -> x.bars(3, 1));
        onlyTells("bars(11, 3) of twelve", Edges::full, x -> x.bars(11, 3));
    }

    private static void noBar() {
        due("next to him", row().bars(0, 2), NONE);
        due("no way", row().bars(0, 0), NONE);
        due("no way, of two", begun("-;01;9", 2).bars(0, 1), NONE);
        due("two ways", begun("-;01,12,23,14,43;9", 5).bars(0, 3), NONE);
    }

    private static void barsUnknown() {
        for (int nobody : NOBODY_OF_FIVE) {
            refused("bars(3, " + nobody + ")", Edges::busy, x -> x.bars(3, nobody), UNKNOWN);
            refused("bars(0, " + nobody + "), repaid", Edges::busy, x -> x.bars(0, nobody), UNKNOWN);
        }
        for (int favour : NO_FAVOUR_OF_FOUR) {
            refused("bars(" + favour + ", 0)", Edges::busy, x -> x.bars(favour, 0), UNKNOWN);
        }
        due("with no law", new FavoursGoRound().bars(0, 0), UNKNOWN);
    }

    private static void barsRepaid() {
        refused("bars(0, 1)", Edges::busy, x -> x.bars(0, 1), STATE);
        refused("bars(10, 1) of twelve", Edges::full, x -> x.bars(10, 1), STATE);
    }

    // ---- meetings

    private static void bestMeeting() {
        // 1 and 3 would make it 3 favours, 1 and 4 two, 1 and 5 one
        due("not the first that helps", row().meeting(0, 5), 6 * 1 + 5);
        due("two on", row().meeting(0, 3), 6 * 1 + 3);
        // 5 is kin of 0: 1 may not do it for 5, so the best are those of two favours
        due("of two favours", begun("05;01,12,23,34;9", 6).meeting(0, 5), 6 * 2 + 5);
        FavoursGoRound miser = under("-;01,12,23;9", PERSON, PERSON, MISER, PERSON);
        miser.favour(0, 1, 5, NONE);
        due("past a miser", miser.meeting(0, 3), 6 * 1 + 3);
        due("who is not there meets nobody", begun("-;01,12,25;9", 3).meeting(0, 0), 2);
        onlyTells("meeting(3, 1)", Edges::busy, x -> x.meeting(3, 1));
        onlyTells("meeting(11, 3) of twelve", Edges::full, x -> x.meeting(11, 3));
    }

    private static void shorterThanItIs() {
        due("it is one as it is", row().meeting(0, 2), NONE);
        // 3 is kin of 0: two favours are the fewest that can be, and as it is there are two
        FavoursGoRound x = begun("03;01,12,23;9", 4);
        due("it is two as it is", x.way(0, 3, 0), 2);
        due("just as short is not shorter", x.meeting(0, 3), NONE);
        due("one shorter is", begun("03;01,12,24,43;9", 5).meeting(0, 3), 6 * 1 + 4);
        due("none as it is", begun("-;01,23;9", 4).meeting(0, 2), 6 * 1 + 2);
        due("none as it is, to who began", row().meeting(0, 0), 6 * 0 + 2);
        FavoursGoRound eight = loop();
        due("eight as it is", eight.way(0, 0, 0), 8);
        due("far shorter than eight", eight.meeting(0, 0), 6 * 0 + 3);
    }

    private static void numbersOfMeetings() {
        FavoursGoRound least = under("-;02;9", 0, 0, 0);
        least.favour(2, 0, 5, NONE);
        due("0 and 1", least.meeting(0, 1), 1);
        FavoursGoRound most = under("-;04;9", 0, 0, 0, 0, 0, 0);
        most.favour(0, 4, 5, NONE);
        due("4 and 5", most.meeting(0, 5), 29);
        FavoursGoRound turned = under("-;05;9", 0, 0, 0, 0, 0, 0);
        turned.favour(0, 5, 5, NONE);
        due("5 and 4: the lesser first", turned.meeting(0, 4), 29);
        due("5 and 1: the lesser first", turned.meeting(0, 1), 11);
    }

    private static void leastMeeting() {
        // 1 2 0 1 by 0 and 2, or 1 2 3 1 by 1 and 3: three favours each
        due("to who owes it", row().meeting(0, 1), 6 * 0 + 2);
        // 5 is kin of 0: of two favours it is by 2 and 5, and by 3 and 5
        due("2 and 5, or 3 and 5", begun("05;01,12,13,34;9", 6).meeting(0, 5), 6 * 2 + 5);
    }

    private static void noMeeting() {
        FavoursGoRound miser = under("-;01;9", PERSON, MISER, PERSON);
        miser.favour(0, 1, 5, NONE);
        due("a miser meets in vain", miser.meeting(0, 2), NONE);
        due("no two who do not know each other", begun("-;01;9", 2).meeting(0, 0), NONE);
        FavoursGoRound sailors = sixSailors();
        sailors.favour(0, 1, 5, NONE);
        for (int who = 0; who < 6; who++) {
            due("sailors know everybody", sailors.meeting(0, who), NONE);
        }
        due("kin of who did it", begun("02;01;9", 3).meeting(0, 2), NONE);
    }

    private static void meetingUnknown() {
        for (int nobody : NOBODY_OF_FIVE) {
            refused("meeting(3, " + nobody + ")", Edges::busy, x -> x.meeting(3, nobody), UNKNOWN);
            refused("meeting(0, " + nobody + "), repaid", Edges::busy, x -> x.meeting(0, nobody), UNKNOWN);
        }
        for (int favour : NO_FAVOUR_OF_FOUR) {
            refused("meeting(" + favour + ", 0)", Edges::busy, x -> x.meeting(favour, 0), UNKNOWN);
        }
        due("with no law", new FavoursGoRound().meeting(0, 0), UNKNOWN);
    }

    private static void meetingRepaid() {
        refused("meeting(0, 1)", Edges::busy, x -> x.meeting(0, 1), STATE);
        refused("meeting(10, 1) of twelve", Edges::full, x -> x.meeting(10, 1), STATE);
    }

    // ---- rings

    private static void ringsOfAll() {
        FavoursGoRound x = sixSailors();
        // 5 for whom the first can be, 4 behind them, and then 3: neither of the latest two, nor who began
        int[] due = {0, 20, 60, 180, 540};
        for (int length = 2; length <= 6; length++) {
            for (int who = 0; who < 6; who++) {
                due("rings(" + who + ", " + length + ")", x.rings(who, length), due[length - 2]);
            }
        }
        FavoursGoRound ring = under("-;01,12,23,34,45,50;9", 0, 0, 0, 0, 0, 0);
        for (int length = 2; length <= 6; length++) {
            due("round six, length " + length, ring.rings(3, length), length == 6 ? 2 : 0);
        }
        due("alone", under("-;01;9", SAILOR).rings(0, 2), 0);
        due("of two", under("-;01;9", SAILOR, SAILOR).rings(0, 2), 0);
        onlyTells("rings(0, 3)", Edges::busy, y -> y.rings(0, 3));
    }

    private static void homeButOnce() {
        // twice round a ring of three is six favours, but home is reached at the third
        FavoursGoRound x = under("-;01,12,20;9", 0, 0, 0);
        due("round three", x.rings(0, 3), 2);
        due("twice round three", x.rings(0, 6), 0);
        // 0 is at the end of a row into a ring: 0 1 2 3 1 0
        FavoursGoRound y = under("-;01,12,23,31;9", 0, 0, 0, 0);
        due("others come twice", y.rings(0, 5), 2);
    }

    private static void ringsAsWays() {
        due("not to the same again", under("-;01;9", 0, 0).rings(0, 2), 0);
        due("round three", under("-;01,12,20;9", 0, 0, 0).rings(0, 3), 2);
        due("by a miser", under("-;01,12,20;9", PERSON, PERSON, MISER).rings(0, 3), 0);
        due("to kin of who began, or by them", under("02;01,12,20;9", 0, 0, 0).rings(0, 3), 0);
        due("past kin of two others", under("12;01,12,20;9", 0, 0, 0).rings(0, 3), 2);
        due("past kin on the other side", under("02;01,12,23,30;9", 0, 0, 0, 0).rings(0, 4), 0);
        FavoursGoRound x = square();
        weeks(x, 50);
        due("whatever the week", x.rings(0, 4), 2);
        due("whatever favours there are", full().rings(0, 6), 2);
    }

    private static void whoBegins() {
        FavoursGoRound x = under("-;01,12,20;9", MISER, PERSON, PERSON);
        due("a miser begins none", x.rings(0, 3), 0);
        FavoursGoRound y = under("-;12,23,31;9", 0, 0, 0, 0);
        due("who knows nobody begins none", y.rings(0, 3), 0);
        due("who knows them does", y.rings(1, 3), 2);
        due("kin are known", under("01;12,20;9", 0, 0, 0).rings(2, 3), 2);
    }

    private static void ringsUnknown() {
        for (int nobody : NOBODY_OF_FIVE) {
            refused("rings(" + nobody + ", 3)", Edges::busy, x -> x.rings(nobody, 3), UNKNOWN);
            refused("rings(" + nobody + ", 7)", Edges::busy, x -> x.rings(nobody, 7), UNKNOWN);
        }
        due("a seventh", sixSailors().rings(6, 3), UNKNOWN);
        due("with no law", new FavoursGoRound().rings(0, 2), UNKNOWN);
    }

    private static void ringsOutside() {
        for (int length : new int[] {1, 7, 0, -1, LOW, HIGH}) {
            refused("rings(0, " + length + ")", Edges::busy, x -> x.rings(0, length), OUTSIDE);
        }
        due("2", sixSailors().rings(0, 2), 0);
        due("6", sixSailors().rings(0, 6), 540);
    }
}
