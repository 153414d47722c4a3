/** Edges of people and favours: promises 7 to 13, and the terms of people, favours and chains. */
final class PeopleEdges extends Edges {
    private static final int[] NOBODY_OF_FIVE = {NONE, 5, 6, LOW, HIGH};
    private static final int[] NO_FAVOUR_OF_FOUR = {NONE, 4, 12, LOW, HIGH};

    static void all() {
        sentence(TERMS, "PEOPLE (6 at most, numbered) are of KINDS", PeopleEdges::sixPeople);
        sentence(TERMS, "KINDS: 0 PERSON, 1 MISER, 2 WIDOW, 3 SAILOR, 4 CAPTAIN.", PeopleEdges::fiveKinds);
        sentence(TERMS, "All are PERSONS; a CAPTAIN is a SAILOR, too.", PeopleEdges::whoIsWhat);
        sentence(TERMS, "A SAILOR knows everybody (and everybody knows him).", PeopleEdges::sailors);
        sentence(TERMS, "A MISER does no favours.", PeopleEdges::misers);
        sentence(TERMS, "TERM of a CAPTAIN is twice as long.", PeopleEdges::captains);
        favoursOfTheTerms();
        peopleOfThePromises();
        favoursOfThePromises();
    }

    private static void favoursOfTheTerms() {
        sentence(TERMS, "FAVOURS (12 at most, numbered)", PeopleEdges::twelveFavours);
        sentence(TERMS, "are done by one FOR another one, who knows him, in a week", PeopleEdges::whoKnowsHim);
        sentence(TERMS, "and are WORTH 1 to 99.", PeopleEdges::worths);
        sentence(TERMS, "One is FREE, or REPAYS one that was done FOR him who does it", PeopleEdges::whoRepays);
        sentence(TERMS, "and that is not REPAID yet", PeopleEdges::repaidOnce);
        sentence(TERMS, "it is not FOR him who did that, nor FOR his KIN", PeopleEdges::notToTheSame);
        sentence(TERMS, "it is WORTH as much at least (by a WIDOW 1 less)", PeopleEdges::asMuchAtLeast);
        sentence(TERMS, "and no more weeks have gone since than his TERM.", PeopleEdges::inHisTerm);
        sentence(TERMS, "One OWES each favour that was done FOR him and is not REPAID", PeopleEdges::whatOneOwes);
        sentence(TERMS, "it is LATE, if more weeks have gone than his TERM.", PeopleEdges::whatIsLate);
        sentence(TERMS, "A CHAIN are a FREE favour, that which REPAYS it, that which REPAYS that, and so on.",
            PeopleEdges::chains);
        sentence(TERMS, "It is HOME, if who began it is he FOR whom one of the others was done.", PeopleEdges::homes);
    }

    private static void peopleOfThePromises() {
        sentence(7, "A PERSON: his number.", PeopleEdges::sixPeople);
        sentence(7, "OUTSIDE: kind", PeopleEdges::noKind);
        sentence(7, "STATE: no LAW", PeopleEdges::personWithNoLaw);
        sentence(7, "FULL.", PeopleEdges::seventhPerson);
        sentence(8, "Of a PERSON: what = 0 KIND, 1 how many favours he did, 2 how many were done FOR him, "
            + "3 how many he OWES, 4 how many of these are LATE, 5 his TERM.", PeopleEdges::aboutOne);
        sentence(8, "UNKNOWN", PeopleEdges::aboutNobody);
        sentence(8, "OUTSIDE.", PeopleEdges::aboutWhat);
        sentence(9, "A PERSON taken as a KIND: his number; NONE: he is none such (the cast fails).", PeopleEdges::whoIsWhat);
        sentence(9, "UNKNOWN", PeopleEdges::nobodyAs);
        sentence(9, "OUTSIDE.", PeopleEdges::asNoKind);
    }

    private static void favoursOfThePromises() {
        sentence(10, "Whether a favour by a FOR b, WORTH so much, that REPAYS one (NONE: FREE) would be lawful (1, 0).",
            PeopleEdges::whetherLawful);
        sentence(10, "UNKNOWN: a, b, or they are the same, repays", PeopleEdges::mayUnknown);
        sentence(10, "OUTSIDE: worth.", PeopleEdges::mayOutside);
        sentence(11, "It is done: its number.", PeopleEdges::twelveFavours);
        sentence(11, "UNKNOWN; OUTSIDE, as may()", PeopleEdges::favourAsMay);
        sentence(11, "STATE: it would not be lawful", PeopleEdges::favourUnlawful);
        sentence(11, "FULL.", PeopleEdges::thirteenthFavour);
        sentence(12, "Of a favour: what = 0 who did it, 1 FOR whom, 2 WORTH, 3 in which week, "
            + "4 which one it REPAYS (NONE), 5 which one REPAYS it (NONE), 6 how many of its CHAIN come ahead of it, "
            + "7 whether its CHAIN is HOME (1, 0).", PeopleEdges::deeds);
        sentence(12, "UNKNOWN", PeopleEdges::deedUnknown);
        sentence(12, "OUTSIDE.", PeopleEdges::deedOutside);
        sentence(13, "The next week: its number.", PeopleEdges::nextWeek);
        sentence(13, "STATE: no LAW.", PeopleEdges::weekWithNoLaw);
    }

    // ---- people

    private static void sixPeople() {
        FavoursGoRound x = under("-;01;1");
        due("at first", x.count(3), 0);
        for (int n = 0; n < 6; n++) {
            due("nobody yet", x.about(n, 0), UNKNOWN);
            due("his number", x.person(n % 5), n);
            due("his kind", x.about(n, 0), n % 5);
            due("how many", x.count(3), n + 1);
        }
        due("a seventh", x.person(PERSON), FULL);
        due("how many", x.count(3), 6);
        due("nobody", x.about(6, 0), UNKNOWN);
    }

    private static void fiveKinds() {
        FavoursGoRound x = under("-;01;1", PERSON, MISER, WIDOW, SAILOR, CAPTAIN);
        for (int kind = 0; kind < 5; kind++) {
            due("kind", x.about(kind, 0), kind);
        }
    }

    private static void noKind() {
        for (int kind : new int[] {-1, 5, LOW, HIGH}) {
            refused("person(" + kind + ")", Edges::busy, x -> x.person(kind), OUTSIDE);
            refused("person(" + kind + ") with no law", Edges::lawless, x -> x.person(kind), OUTSIDE);
            refused("person(" + kind + ") of seven", Edges::full, x -> x.person(kind), OUTSIDE);
        }
        due("the last kind", busy().person(CAPTAIN), 5);
        due("the first kind", busy().person(PERSON), 5);
    }

    private static void personWithNoLaw() {
        for (int kind = 0; kind < 5; kind++) {
            int of = kind;
            refused("person(" + kind + ")", Edges::lawless, x -> x.person(of), STATE);
        }
        FavoursGoRound x = page("-;01;1");
        due("a page is no law yet", x.person(PERSON), STATE);
        x.law();
        due("under a law", x.person(PERSON), 0);
    }

    private static void seventhPerson() {
        for (int kind = 0; kind < 5; kind++) {
            int of = kind;
            refused("person(" + kind + ") of seven", Edges::full, x -> x.person(of), FULL);
        }
    }

    private static void whoIsWhat() {
        FavoursGoRound x = under("-;01;2", CAPTAIN, SAILOR, WIDOW, MISER, PERSON);
        for (int who = 0; who < 5; who++) {
            for (int kind = 0; kind < 5; kind++) {
                boolean is = kind == PERSON || kind == 4 - who || who == 0 && kind == SAILOR;
                due("as(" + who + ", " + kind + ")", x.as(who, kind), is ? who : NONE);
            }
        }
        due("a sailor is no captain", x.as(1, CAPTAIN), NONE);
        due("a person is no miser", x.as(4, MISER), NONE);
        onlyTells("as(3, 3)", Edges::busy, y -> y.as(3, SAILOR));
        onlyTells("as(0, 1)", Edges::busy, y -> y.as(0, MISER));
    }

    private static void nobodyAs() {
        for (int nobody : NOBODY_OF_FIVE) {
            refused("as(" + nobody + ", 0)", Edges::busy, x -> x.as(nobody, PERSON), UNKNOWN);
            refused("as(" + nobody + ", 5)", Edges::busy, x -> x.as(nobody, 5), UNKNOWN);
        }
        due("the last one", busy().as(4, MISER), 4);
        due("with no law", new FavoursGoRound().as(0, 0), UNKNOWN);
    }

    private static void asNoKind() {
        for (int kind : new int[] {-1, 5, LOW, HIGH}) {
            refused("as(0, " + kind + ")", Edges::busy, x -> x.as(0, kind), OUTSIDE);
        }
        due("the last kind", busy().as(3, CAPTAIN), 3);
        due("the first kind", busy().as(3, PERSON), 3);
    }

    private static void sailors() {
        for (int kind : new int[] {SAILOR, CAPTAIN}) {
            FavoursGoRound x = under("-;01;1", PERSON, MISER, WIDOW, kind, PERSON, SAILOR);
            for (int other = 0; other < 6; other++) {
                if (other != 3) {
                    due("he knows " + other, x.between(3, other), 2);
                    due("he is known by " + other, x.between(other, 3), 2);
                    due("he does one for " + other, x.may(3, other, 1, NONE), 1);
                    due("one for him by " + other, x.may(other, 3, 1, NONE), other == 1 ? 0 : 1);
                }
            }
            due("others do not know each other by him", x.between(0, 2), 0);
        }
        due("who comes later is known, too", under("-;01;1", SAILOR, 0, 0, 0, 0, 0).between(0, 5), 2);
    }

    private static void misers() {
        FavoursGoRound x = under("12;01,12,20;9", PERSON, MISER, PERSON, SAILOR);
        for (int other : new int[] {0, 2, 3}) {
            due("a free one", x.may(1, other, 1, NONE), 0);
            due("a free one", x.favour(1, other, 99, NONE), STATE);
            due("for him", x.may(other, 1, 1, NONE), 1);
        }
        due("for him", x.favour(0, 1, 1, NONE), 0);
        due("repaid by him", x.may(1, 3, 99, 0), 0);
        due("he owes it", x.about(1, 3), 1);
        due("he did none", x.about(1, 1), 0);
        due("it goes nowhere", x.reach(0), 0);
    }

    private static void captains() {
        for (int term = 1; term <= 9; term++) {
            FavoursGoRound x = under("-;01;" + term, PERSON, MISER, WIDOW, SAILOR, CAPTAIN);
            for (int who = 0; who < 4; who++) {
                due("term of kind " + who, x.about(who, 5), term);
            }
            due("of a captain", x.about(4, 5), 2 * term);
        }
        FavoursGoRound y = under("-;01;9", PERSON, CAPTAIN, PERSON);
        y.favour(0, 1, 3, NONE);
        weeks(y, 18);
        due("in the 18th week", y.may(1, 2, 3, 0), 1);
        due("not late", y.about(1, 4), 0);
        y.week();
        due("in the 19th week", y.may(1, 2, 3, 0), 0);
        due("late", y.about(1, 4), 1);
    }

    private static void aboutOne() {
        FavoursGoRound x = busy();
        int[][] due = {{0, 1, 0, 0, 0, 3}, {2, 1, 1, 0, 0, 3}, {0, 1, 1, 0, 0, 3}, {4, 1, 1, 1, 0, 6}, {1, 0, 1, 1, 0, 3}};
        for (int who = 0; who < 5; who++) {
            for (int what = 0; what <= 5; what++) {
                due("about(" + who + ", " + what + ")", x.about(who, what), due[who][what]);
            }
        }
        FavoursGoRound y = under("-;01;1", PERSON, PERSON);
        for (int n = 0; n < 12; n++) {
            y.favour(0, 1, 1, NONE);
        }
        weeks(y, 2);
        due("all twelve he did", y.about(0, 1), 12);
        due("none for him", y.about(0, 2), 0);
        due("none did he", y.about(1, 1), 0);
        due("all twelve for him", y.about(1, 2), 12);
        due("all twelve he owes", y.about(1, 3), 12);
        due("all twelve late", y.about(1, 4), 12);
        onlyTells("about(0, 0)", Edges::busy, z -> z.about(0, 0));
    }

    private static void aboutNobody() {
        for (int nobody : NOBODY_OF_FIVE) {
            refused("about(" + nobody + ", 0)", Edges::busy, x -> x.about(nobody, 0), UNKNOWN);
            refused("about(" + nobody + ", 6)", Edges::busy, x -> x.about(nobody, 6), UNKNOWN);
        }
        due("a seventh", full().about(6, 0), UNKNOWN);
        due("the sixth", full().about(5, 0), PERSON);
        due("with no law", new FavoursGoRound().about(0, 0), UNKNOWN);
    }

    private static void aboutWhat() {
        for (int what : new int[] {-1, 6, LOW, HIGH}) {
            refused("about(0, " + what + ")", Edges::busy, x -> x.about(0, what), OUTSIDE);
        }
        due("the first", busy().about(3, 0), CAPTAIN);
        due("the last", busy().about(3, 5), 6);
    }

    // ---- favours

    private static void twelveFavours() {
        FavoursGoRound x = square();
        due("at first", x.count(4), 0);
        for (int n = 0; n < 12; n++) {
            due("none yet", x.deed(n, 0), UNKNOWN);
            due("its number", x.favour(n % 4, (n + 1) % 4, 5, n - 1), n);
            due("how many", x.count(4), n + 1);
            due("who did it", x.deed(n, 0), n % 4);
        }
        due("a thirteenth", x.favour(0, 1, 5, 11), FULL);
        due("how many", x.count(4), 12);
        due("no thirteenth", x.deed(12, 0), UNKNOWN);
    }

    private static void thirteenthFavour() {
        refused("a thirteenth, free", Edges::full, x -> x.favour(0, 1, 5, NONE), FULL);
        refused("a thirteenth that repays", Edges::full, x -> x.favour(0, 1, 5, 11), FULL);
        due("it would be lawful", full().may(0, 1, 5, 11), 1);
        refused("a thirteenth, unlawful", Edges::full, x -> x.favour(0, 2, 5, NONE), STATE);
        refused("a thirteenth, worth 0", Edges::full, x -> x.favour(0, 1, 0, NONE), OUTSIDE);
        refused("a thirteenth for nobody", Edges::full, x -> x.favour(0, 6, 5, NONE), UNKNOWN);
    }

    private static void whoKnowsHim() {
        FavoursGoRound x = square();
        weeks(x, 2);
        due("to who knows him", x.favour(0, 1, 5, NONE), 0);
        due("to a stranger", x.favour(0, 2, 5, NONE), STATE);
        due("to oneself", x.favour(0, 0, 5, NONE), UNKNOWN);
        due("repaid to a stranger whom one does not know", x.may(1, 3, 5, 0), 0);
        due("in that week", x.deed(0, 3), 2);
        x.week();
        due("in that week it stays", x.deed(0, 3), 2);
    }

    private static void worths() {
        FavoursGoRound x = square();
        due("worth 1", x.favour(0, 1, 1, NONE), 0);
        due("worth 99", x.favour(0, 1, 99, NONE), 1);
        due("worth 1", x.deed(0, 2), 1);
        due("worth 99", x.deed(1, 2), 99);
        due("worth 0", x.favour(0, 1, 0, NONE), OUTSIDE);
        due("worth 100", x.favour(0, 1, 100, NONE), OUTSIDE);
        due("worth -1", x.favour(0, 1, -1, NONE), OUTSIDE);
        due("by a widow, too", under("-;01;1", WIDOW, PERSON).favour(0, 1, 0, NONE), OUTSIDE);
    }

    private static void whoRepays() {
        FavoursGoRound x = square();
        x.favour(0, 1, 5, NONE);
        due("he for whom it was done", x.may(1, 2, 5, 0), 1);
        due("who did it", x.may(0, 3, 5, 0), 0);
        due("somebody else", x.may(2, 3, 5, 0), 0);
        due("somebody else, free", x.may(2, 3, 5, NONE), 1);
        due("he for whom it was done, free", x.may(1, 0, 1, NONE), 1);
        x.favour(1, 0, 1, NONE);
        due("it is free, and repays nothing", x.deed(1, 4), NONE);
        due("he owes it still", x.about(1, 3), 1);
    }

    private static void repaidOnce() {
        FavoursGoRound x = square();
        x.favour(0, 1, 5, NONE);
        due("once", x.favour(1, 2, 5, 0), 1);
        due("twice", x.may(1, 2, 5, 0), 0);
        due("twice", x.favour(1, 2, 99, 0), STATE);
        due("that which repaid it", x.deed(0, 5), 1);
    }

    private static void notToTheSame() {
        FavoursGoRound x = under("04,15;01,12,13,14,43;9", PERSON, PERSON, PERSON, PERSON, PERSON, PERSON);
        x.favour(0, 1, 5, NONE);
        due("to the same again", x.may(1, 0, 5, 0), 0);
        due("to his kin", x.may(1, 4, 5, 0), 0);
        due("to one's own kin", x.may(1, 5, 5, 0), 1);
        due("to another", x.may(1, 2, 5, 0), 1);
        due("free to the same", x.may(1, 0, 5, NONE), 1);
        due("free to his kin", x.may(1, 4, 5, NONE), 1);
        x.favour(1, 3, 5, 0);
        due("later on to kin of who began", x.may(3, 4, 5, 1), 1);
        // 2 is kin of 4, who is kin of 0: yet 2 is no kin of 0
        FavoursGoRound y = under("04,42;01,12;9", 0, 0, 0, 0, 0);
        y.favour(0, 1, 5, NONE);
        due("to kin of his kin", y.may(1, 2, 5, 0), 1);
    }

    private static void asMuchAtLeast() {
        int[] kinds = {PERSON, WIDOW, SAILOR, CAPTAIN};
        for (int kind : kinds) {
            int less = kind == WIDOW ? 1 : 0;
            FavoursGoRound x = under("-;01,12;9", PERSON, kind, PERSON);
            x.favour(0, 1, 50, NONE);
            due("as much", x.may(1, 2, 50, 0), 1);
            due("1 more", x.may(1, 2, 51, 0), 1);
            due("the most", x.may(1, 2, 99, 0), 1);
            due("the least", x.may(1, 2, 50 - less, 0), 1);
            due("too little", x.may(1, 2, 49 - less, 0), 0);
            x.favour(0, 1, 99, NONE);
            due("of 99", x.may(1, 2, 99 - less, 1), 1);
            due("too little for 99", x.may(1, 2, 98 - less, 1), 0);
            x.favour(0, 1, 1, NONE);
            due("of 1", x.may(1, 2, 1, 2), 1);
            due("none is worth 0", x.may(1, 2, 0, 2), OUTSIDE);
        }
        // who has it from a widow, or it was hers, gives no less himself
        FavoursGoRound y = under("-;01,12;9", WIDOW, PERSON, WIDOW);
        y.favour(0, 1, 50, NONE);
        due("from a widow, for a widow", y.may(1, 2, 49, 0), 0);
    }

    private static void inHisTerm() {
        int[] terms = {1, 2, 9};
        for (int term : terms) {
            FavoursGoRound x = under("-;01,12;" + term, CAPTAIN, PERSON, CAPTAIN);
            weeks(x, 3);
            x.favour(0, 1, 5, NONE);
            due("at once", x.may(1, 2, 5, 0), 1);
            weeks(x, term);
            due("in the last week", x.may(1, 2, 5, 0), 1);
            x.week();
            due("a week later", x.may(1, 2, 5, 0), 0);
            due("a week later", x.favour(1, 2, 5, 0), STATE);
            due("free", x.may(1, 2, 5, NONE), 1);
        }
        FavoursGoRound y = under("-;01,12;2", PERSON, PERSON, PERSON);
        y.favour(0, 1, 5, NONE);
        weeks(y, 2);
        due("done in the last week", y.favour(1, 2, 5, 0), 1);
        weeks(y, 2);
        due("a new term begins with it", y.about(2, 4), 0);
    }

    private static void whatOneOwes() {
        FavoursGoRound x = square();
        due("nothing", x.about(1, 3), 0);
        x.favour(0, 1, 5, NONE);
        x.favour(2, 1, 5, NONE);
        due("each", x.about(1, 3), 2);
        due("who did it owes nothing", x.about(0, 3), 0);
        x.favour(1, 2, 5, 0);
        due("one is repaid", x.about(1, 3), 1);
        due("and owed by another one", x.about(2, 3), 1);
        x.favour(1, 0, 5, 1);
        due("all are repaid", x.about(1, 3), 0);
        due("two were done for him", x.about(1, 2), 2);
        due("not repaid", x.count(5), 2);
    }

    private static void whatIsLate() {
        FavoursGoRound x = under("-;01,12;2", PERSON, PERSON, PERSON);
        x.favour(0, 1, 5, NONE);
        x.week();
        x.favour(0, 1, 5, NONE);
        x.favour(0, 1, 5, NONE);
        x.favour(1, 2, 5, 1);
        x.week();
        due("in the last week", x.about(1, 4), 0);
        x.week();
        due("the elder one", x.about(1, 4), 1);
        x.week();
        due("both that are not repaid", x.about(1, 4), 2);
        due("a repaid one is not late", x.about(1, 3), 2);
        due("that which repaid it is", x.about(2, 4), 1);
        due("nor who did them", x.about(0, 4), 0);
    }

    private static void chains() {
        FavoursGoRound x = full();
        for (int n = 0; n < 12; n++) {
            due("ahead of it", x.deed(n, 6), n);
            due("it repays", x.deed(n, 4), n - 1);
            due("repaid by", x.deed(n, 5), n < 11 ? n + 1 : NONE);
        }
        FavoursGoRound y = square();
        y.favour(0, 1, 5, NONE);
        y.favour(0, 1, 5, NONE);
        y.favour(1, 2, 5, 1);
        due("a free one has none ahead", y.deed(0, 6), 0);
        due("another free one has none", y.deed(1, 6), 0);
        due("that which repays it has one", y.deed(2, 6), 1);
        due("it is not that of the other", y.deed(0, 5), NONE);
    }

    private static void homes() {
        FavoursGoRound x = square();
        x.favour(0, 1, 5, NONE);
        x.favour(1, 2, 5, 0);
        x.favour(2, 3, 5, 1);
        due("not yet", x.deed(2, 7), 0);
        due("no chain", x.count(7), 0);
        x.favour(3, 0, 5, 2);
        for (int n = 0; n < 4; n++) {
            due("each of them", x.deed(n, 7), 1);
        }
        due("one chain", x.count(7), 1);
        x.favour(0, 1, 5, 3);
        due("it goes on", x.deed(4, 7), 1);
        due("still one chain", x.count(7), 1);
        // 1 has one done for him again, but began nothing
        FavoursGoRound y = under("-;01,12,23,31;9", 0, 0, 0, 0);
        y.favour(0, 1, 5, NONE);
        y.favour(1, 2, 5, 0);
        y.favour(2, 3, 5, 1);
        y.favour(3, 1, 5, 2);
        due("to one who did not begin", y.deed(3, 7), 0);
        y.favour(1, 0, 5, NONE);
        due("by another chain", y.deed(0, 7), 0);
        due("a free one alone", y.deed(4, 7), 0);
        due("no chain", y.count(7), 0);
        due("one behind the other, twice round", full().count(7), 1);
    }

    private static void whetherLawful() {
        FavoursGoRound x = busy();
        due("free", x.may(0, 1, 1, NONE), 1);
        due("free, to a stranger", x.may(0, 2, 1, NONE), 0);
        due("repays the last one", x.may(3, 0, 9, 3), 1);
        due("repays the first one, repaid", x.may(1, 2, 10, 0), 0);
        onlyTells("may(3, 0, 9, 3)", Edges::busy, y -> y.may(3, 0, 9, 3));
        onlyTells("may(0, 2, 1, NONE)", Edges::busy, y -> y.may(0, 2, 1, NONE));
        due("lawful, though there are twelve", full().may(0, 5, 1, NONE), 1);
    }

    private static void mayUnknown() {
        for (int nobody : NOBODY_OF_FIVE) {
            refused("may(" + nobody + ", 0, 5, NONE)", Edges::busy, x -> x.may(nobody, 0, 5, NONE), UNKNOWN);
            refused("may(0, " + nobody + ", 5, NONE)", Edges::busy, x -> x.may(0, nobody, 5, NONE), UNKNOWN);
            refused("may(0, " + nobody + ", 0, NONE)", Edges::busy, x -> x.may(0, nobody, 0, NONE), UNKNOWN);
        }
        for (int who = 0; who < 5; who++) {
            int same = who;
            refused("may(the same)", Edges::busy, x -> x.may(same, same, 5, NONE), UNKNOWN);
        }
        for (int favour : new int[] {-2, 4, 12, LOW, HIGH}) {
            refused("may(0, 1, 5, " + favour + ")", Edges::busy, x -> x.may(0, 1, 5, favour), UNKNOWN);
            refused("may(0, 1, 100, " + favour + ")", Edges::busy, x -> x.may(0, 1, 100, favour), UNKNOWN);
        }
        due("the thirteenth", full().may(0, 1, 5, 12), UNKNOWN);
        due("with no law", new FavoursGoRound().may(0, 1, 5, NONE), UNKNOWN);
    }

    private static void mayOutside() {
        for (int worth : new int[] {0, 100, -1, LOW, HIGH}) {
            refused("may(0, 1, " + worth + ", NONE)", Edges::busy, x -> x.may(0, 1, worth, NONE), OUTSIDE);
            refused("may(0, 2, " + worth + ", 0)", Edges::busy, x -> x.may(0, 2, worth, 0), OUTSIDE);
        }
        due("the least", busy().may(0, 1, 1, NONE), 1);
        due("the most", busy().may(0, 1, 99, NONE), 1);
    }

    private static void favourAsMay() {
        for (int nobody : NOBODY_OF_FIVE) {
            refused("favour(" + nobody + ", 0, 5, NONE)", Edges::busy, x -> x.favour(nobody, 0, 5, NONE), UNKNOWN);
            refused("favour(0, " + nobody + ", 100, 9)", Edges::busy, x -> x.favour(0, nobody, 100, 9), UNKNOWN);
        }
        refused("favour(the same)", Edges::busy, x -> x.favour(3, 3, 5, NONE), UNKNOWN);
        for (int favour : new int[] {-2, 4, 12, LOW, HIGH}) {
            refused("favour(0, 1, 0, " + favour + ")", Edges::busy, x -> x.favour(0, 1, 0, favour), UNKNOWN);
        }
        for (int worth : new int[] {0, 100, -1, LOW, HIGH}) {
            refused("favour(0, 1, " + worth + ", NONE)", Edges::busy, x -> x.favour(0, 1, worth, NONE), OUTSIDE);
            refused("favour(0, 2, " + worth + ", NONE)", Edges::busy, x -> x.favour(0, 2, worth, NONE), OUTSIDE);
        }
        due("the least", busy().favour(0, 1, 1, NONE), 4);
        due("the most", busy().favour(0, 1, 99, NONE), 4);
        due("with no law", new FavoursGoRound().favour(0, 1, 5, NONE), UNKNOWN);
    }

    private static void favourUnlawful() {
        refused("to a stranger", Edges::busy, x -> x.favour(0, 2, 5, NONE), STATE);
        refused("by a miser", Edges::busy, x -> x.favour(4, 0, 5, NONE), STATE);
        refused("repaid by a miser", Edges::busy, x -> x.favour(4, 0, 5, 2), STATE);
        refused("repaid already", Edges::busy, x -> x.favour(1, 2, 10, 0), STATE);
        refused("not his to repay", Edges::busy, x -> x.favour(0, 1, 9, 3), STATE);
        refused("to the same again", Edges::busy, x -> x.favour(3, 2, 9, 3), STATE);
        refused("worth less", Edges::busy, x -> x.favour(3, 0, 8, 3), STATE);
        due("just lawful", busy().favour(3, 0, 9, 3), 4);
        FavoursGoRound late = busy();
        weeks(late, 6);
        due("in the last week", late.may(3, 0, 9, 3), 1);
        late.week();
        due("late", late.favour(3, 0, 9, 3), STATE);
    }

    private static void deeds() {
        FavoursGoRound x = busy();
        int[][] due = {
            {0, 1, 10, 0, NONE, 1, 0, 0}, {1, 2, 9, 0, 0, 3, 1, 0},
            {3, 4, 5, 1, NONE, NONE, 0, 0}, {2, 3, 9, 1, 1, NONE, 2, 0}};
        for (int favour = 0; favour < 4; favour++) {
            for (int what = 0; what <= 7; what++) {
                due("deed(" + favour + ", " + what + ")", x.deed(favour, what), due[favour][what]);
            }
        }
        x.favour(3, 0, 9, 3);
        due("home", x.deed(0, 7), 1);
        onlyTells("deed(0, 4)", Edges::busy, y -> y.deed(0, 4));
    }

    private static void deedUnknown() {
        for (int favour : NO_FAVOUR_OF_FOUR) {
            refused("deed(" + favour + ", 0)", Edges::busy, x -> x.deed(favour, 0), UNKNOWN);
            refused("deed(" + favour + ", 8)", Edges::busy, x -> x.deed(favour, 8), UNKNOWN);
        }
        due("the twelfth", full().deed(11, 0), 5);
        due("a thirteenth", full().deed(12, 0), UNKNOWN);
        due("with no law", new FavoursGoRound().deed(0, 0), UNKNOWN);
    }

    private static void deedOutside() {
        for (int what : new int[] {-1, 8, LOW, HIGH}) {
            refused("deed(0, " + what + ")", Edges::busy, x -> x.deed(0, what), OUTSIDE);
        }
        due("the first", busy().deed(3, 0), 2);
        due("the last", full().deed(0, 7), 1);
    }

    private static void nextWeek() {
        FavoursGoRound x = under("-;01;1");
        for (int n = 1; n <= 100; n++) {
            due("its number", x.week(), n);
            due("the week", x.count(6), n);
        }
    }

    private static void weekWithNoLaw() {
        refused("week()", Edges::lawless, FavoursGoRound::week, STATE);
        refused("week() of a new object", FavoursGoRound::new, FavoursGoRound::week, STATE);
        refused("week() with a law on the page", () -> page("-;01;1"), FavoursGoRound::week, STATE);
        due("under a law", under("-;01;1").week(), 1);
    }
}
