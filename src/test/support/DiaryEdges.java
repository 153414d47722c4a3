import java.math.BigInteger;

/** Edges of diaries and of weeks by a seed: promises 19 to 23, and their terms. */
final class DiaryEdges extends Edges {
    private static final BigInteger TWO_TO_31 = BigInteger.ONE.shiftLeft(31);

    static void all() {
        diaries();
        weeksOfTheTerms();
        sentence(23, "WEEKS: what = 0 how many favours there are then, 1 how many are not REPAID, "
            + "2 how many CHAINS are HOME, 3 the SEED then.", DiaryEdges::whatOfWeeks);
        sentence(23, "OUTSIDE: weeks (1 to 60)", DiaryEdges::howManyWeeks);
        sentence(23, "seed (0 at least)", DiaryEdges::whichSeeds);
        sentence(23, "what", DiaryEdges::weeksOutside);
        sentence(23, "STATE: no LAW.", DiaryEdges::weeksWithNoLaw);
    }

    private static void diaries() {
        sentence(TERMS, "A DIARY: of a CHAIN of up to 7 PEOPLE one behind the other (who began, FOR whom the first one "
            + "was, ..) it is told who each is, or nothing of him (NONE).", DiaryEdges::sevenInADiary);
        sentence(TERMS, "FITS: in how many ways PEOPLE can be put for all of these, so that it could be a CHAIN",
            DiaryEdges::howManyWaysFit);
        sentence(TERMS, "(each but the last one does as is told of RINGS", DiaryEdges::fitsAsRings);
        sentence(TERMS, "one alone can be anybody)", DiaryEdges::oneAlone);
        sentence(TERMS, "SURE: who one of them is in all of these.", DiaryEdges::whoIsSure);
        sentence(19, "The next one of the DIARY is a PERSON (NONE: nothing is told of him): how many there are.",
            DiaryEdges::sevenInADiary);
        sentence(19, "UNKNOWN", DiaryEdges::thanksUnknown);
        sentence(19, "FULL.", DiaryEdges::eighthInADiary);
        sentence(20, "The DIARY is empty: how many there were.", DiaryEdges::forgotten);
        sentence(21, "FITS", DiaryEdges::howManyWaysFit);
        sentence(21, "(1, if there is nobody in it).", DiaryEdges::nobodyFits);
        sentence(22, "SURE; NONE: it is not, or there are no ways.", DiaryEdges::whoIsSure);
        sentence(22, "UNKNOWN: place (from 0).", DiaryEdges::sureUnknown);
    }

    private static void weeksOfTheTerms() {
        sentence(TERMS, "WEEKS by a SEED, as they would be: so many", DiaryEdges::asTheyWouldBe);
        sentence(TERMS, "in each of them each who OWES something then, by number", DiaryEdges::whoHasATurn);
        sentence(TERMS, "by a DRAW of 2 (1: he does nothing)", DiaryEdges::whoDoesNothing);
        sentence(TERMS, "and by a DRAW of how many PEOPLE there are (FOR whom)", DiaryEdges::forWhom);
        sentence(TERMS, "REPAYS the favour of the least number that he OWES", DiaryEdges::leastOneIsRepaid);
        sentence(TERMS, "by one WORTH just as much", DiaryEdges::justAsMuch);
        sentence(TERMS, "if that is lawful, and there are no 12 favours", DiaryEdges::noTwelveFavours);
        sentence(TERMS, "then it is the next week.", DiaryEdges::termsGoOut);
        sentence(TERMS, "DRAWS: the next SEED each time: 1103515245 times it and 12345, its rest by 2 to the 31",
            DiaryEdges::seedsWrap);
        sentence(TERMS, "then that by 65536 (rounded down), its rest.", DiaryEdges::drawsOfASeed);
    }

    // ---- diaries

    private static void thank(FavoursGoRound x, int... people) {
        x.forget();
        for (int person : people) {
            x.thanks(person);
        }
    }

    private static int fitsOf(FavoursGoRound x, int... people) {
        thank(x, people);
        return x.fits();
    }

    private static void sevenInADiary() {
        FavoursGoRound x = sixSailors();
        due("at first", x.count(8), 0);
        for (int n = 1; n <= 7; n++) {
            due("how many", x.thanks(n % 2 == 0 ? NONE : n % 6), n);
            due("how many", x.count(8), n);
        }
        due("an eighth", x.thanks(NONE), FULL);
        int[] told = {1, 3, 5, 1};
        for (int n = 0; n < 4; n++) {
            due("who was told", x.sure(2 * n), told[n]);
        }
        FavoursGoRound ends = sixSailors();
        due("the first person", ends.thanks(0), 1);
        due("the last person", ends.thanks(5), 2);
    }

    private static void thanksUnknown() {
        for (int nobody : new int[] {-2, 5, 6, LOW, HIGH, UNKNOWN}) {
            refused("thanks(" + nobody + ")", Edges::busy, x -> x.thanks(nobody), UNKNOWN);
        }
        for (int nobody : new int[] {-2, 6, LOW, HIGH}) {
            refused("thanks(" + nobody + ") of eight", Edges::full, x -> x.thanks(nobody), UNKNOWN);
        }
        refused("thanks(0) with no law", Edges::lawless, x -> x.thanks(0), UNKNOWN);
        due("the last one", busy().thanks(4), 4);
    }

    private static void eighthInADiary() {
        refused("thanks(0) of eight", Edges::full, x -> x.thanks(0), FULL);
        refused("thanks(NONE) of eight", Edges::full, x -> x.thanks(NONE), FULL);
        FavoursGoRound x = full();
        x.forget();
        due("behind forget()", x.thanks(0), 1);
    }

    private static void forgotten() {
        FavoursGoRound x = square();
        due("of none", x.forget(), 0);
        x.thanks(3);
        due("of one", x.forget(), 1);
        due("there are none", x.count(8), 0);
        due("no place", x.sure(0), UNKNOWN);
        due("of none again", x.forget(), 0);
        due("of seven", full().forget(), 7);
        due("with no law", new FavoursGoRound().forget(), 0);
        FavoursGoRound y = busy();
        y.forget();
        y.thanks(0);
        y.thanks(NONE);
        y.thanks(2);
        same("the same diary again,", y, busy());
    }

    private static void howManyWaysFit() {
        FavoursGoRound x = sixSailors();
        // the first 6, the next 5, and then 4: neither of the latest two
        int[] due = {1, 6, 30, 120, 480, 1920, 7680, 30720};
        due("nobody", x.fits(), due[0]);
        for (int n = 1; n <= 7; n++) {
            x.thanks(NONE);
            due(n + " of whom nothing is told", x.fits(), due[n]);
        }
        due("the last is told", fitsOf(x, NONE, NONE, NONE, NONE, NONE, NONE, 5), 5120);
        due("all are told", fitsOf(x, 0, 1, 2, 3, 4, 5, 0), 1);
        due("all are told, and the last is wrong", fitsOf(x, 0, 1, 2, 3, 4, 5, 5), 0);
        due("all are told, and the last goes back", fitsOf(x, 0, 1, 2, 3, 4, 5, 4), 0);
        due("all are told, and the first is wrong", fitsOf(x, 1, 1, 2, 3, 4, 5, 0), 0);
        onlyTells("fits()", Edges::busy, FavoursGoRound::fits);
        onlyTells("fits() of seven", Edges::full, FavoursGoRound::fits);
    }

    private static void fitsAsRings() {
        FavoursGoRound x = under("03;01,12,13,24;9", PERSON, PERSON, PERSON, PERSON, MISER);
        due("who know each other", fitsOf(x, 0, 1), 1);
        due("who do not", fitsOf(x, 0, 2), 0);
        due("to oneself", fitsOf(x, 0, 0), 0);
        due("kin", fitsOf(x, 0, 3), 1);
        due("to the same again", fitsOf(x, 0, 1, 0), 0);
        due("to kin of who began", fitsOf(x, 0, 1, 3), 0);
        due("to another", fitsOf(x, 0, 1, 2), 1);
        due("for a miser at the end", fitsOf(x, 1, 2, 4), 1);
        due("by a miser who begins", fitsOf(x, 4, 2), 0);
        due("by a miser between", fitsOf(x, 2, 4, 2), 0);
        due("by a miser, of anybody", fitsOf(x, 4, NONE), 0);
        due("for a miser, of anybody", fitsOf(x, NONE, 4), 1);
        // unlike in a ring, who began may come again and again
        FavoursGoRound y = under("-;01,12,20;9", 0, 0, 0);
        due("twice round", fitsOf(y, 0, 1, 2, 0, 1, 2, 0), 1);
    }

    private static void oneAlone() {
        FavoursGoRound x = under("-;12;9", MISER, PERSON, PERSON);
        due("nothing is told", fitsOf(x, NONE), 3);
        due("a miser", fitsOf(x, 0), 1);
        due("a person", fitsOf(x, 2), 1);
        thank(x, 0);
        due("it is he", x.sure(0), 0);
        thank(x, NONE);
        due("it is anybody", x.sure(0), NONE);
        FavoursGoRound one = under("-;12;9", MISER);
        due("there is but one", fitsOf(one, NONE), 1);
        due("there is but one", one.sure(0), 0);
        FavoursGoRound none = under("-;12;9");
        due("there is nobody", fitsOf(none, NONE), 0);
        due("there is nobody", none.sure(0), NONE);
    }

    private static void nobodyFits() {
        due("a new object", new FavoursGoRound().fits(), 1);
        due("under a law", under("-;01;1").fits(), 1);
        due("of people", sixSailors().fits(), 1);
        FavoursGoRound x = full();
        x.forget();
        due("behind forget()", x.fits(), 1);
    }

    private static void whoIsSure() {
        FavoursGoRound x = square();
        thank(x, NONE, NONE, 2);
        due("who began", x.sure(0), 0);
        due("1, or 3", x.sure(1), NONE);
        due("who is told", x.sure(2), 2);
        thank(x, 0, NONE, NONE, 3);
        due("the first", x.sure(0), 0);
        due("the second", x.sure(1), 1);
        due("the third", x.sure(2), 2);
        due("the last", x.sure(3), 3);
        thank(x, 0, 2);
        due("no ways", x.fits(), 0);
        due("no ways, though told", x.sure(0), NONE);
        due("no ways, though told", x.sure(1), NONE);
        thank(x, NONE, NONE, NONE, NONE, NONE, NONE, 1);
        due("the seventh", x.sure(6), 1);
        due("all round, the third is he, too", x.sure(2), 1);
        due("all round, the first is over against him", x.sure(0), 3);
        onlyTells("sure(1)", Edges::busy, y -> y.sure(1));
        onlyTells("sure(6) of seven", Edges::full, y -> y.sure(6));
    }

    private static void sureUnknown() {
        for (int place : new int[] {-1, 3, 7, LOW, HIGH}) {
            refused("sure(" + place + ")", Edges::busy, x -> x.sure(place), UNKNOWN);
        }
        refused("sure(7) of seven", Edges::full, x -> x.sure(7), UNKNOWN);
        due("the first", busy().sure(0), 0);
        due("the last", busy().sure(2), 2);
        due("of an empty diary", square().sure(0), UNKNOWN);
        due("with no law", new FavoursGoRound().sure(0), UNKNOWN);
    }

    // ---- weeks by a seed

    private static int next(int seed) {
        return BigInteger.valueOf(1103515245L).multiply(BigInteger.valueOf(seed))
            .add(BigInteger.valueOf(12345L)).mod(TWO_TO_31).intValueExact();
    }

    private static int after(int seed, int draws) {
        int at = seed;
        for (int n = 0; n < draws; n++) {
            at = next(at);
        }
        return at;
    }

    /** The least seed of which the draws are these: by how many, what it tells, and so on. */
    private static int seedOf(int... drawsAndAnswers) {
        for (int seed = 0; seed < 1000000; seed++) {
            int at = seed;
            boolean good = true;
            for (int n = 0; n < drawsAndAnswers.length && good; n += 2) {
                at = next(at);
                good = at / 65536 % drawsAndAnswers[n] == drawsAndAnswers[n + 1];
            }
            if (good) {
                return seed;
            }
        }
        fail("no seed has such draws");
        return 0;
    }

    /** How many draws one makes in so many weeks who owes something and never repays it. */
    private static int seedOfOneWhoOwes(int seed, int weeks) {
        int at = seed;
        for (int n = 0; n < weeks; n++) {
            at = next(at);
            if (at / 65536 % 2 == 0) {
                at = next(at);
            }
        }
        return at;
    }

    private static FavoursGoRound miserOwes() {
        FavoursGoRound x = under("-;01,12,20;9", PERSON, MISER, PERSON);
        x.favour(0, 1, 5, NONE);
        return x;
    }

    private static FavoursGoRound triangle() {
        FavoursGoRound x = under("-;01,12,20;9", PERSON, PERSON, PERSON);
        x.favour(0, 1, 5, NONE);
        return x;
    }

    private static FavoursGoRound squareBegun() {
        FavoursGoRound x = square();
        x.favour(0, 1, 5, NONE);
        return x;
    }

    private static void asTheyWouldBe() {
        for (int many : new int[] {1, 2, 3, 59, 60}) {
            due(many + " weeks", miserOwes().weeks(many, 17, 3), seedOfOneWhoOwes(17, many));
        }
        for (int what = 0; what < 4; what++) {
            int of = what;
            onlyTells("weeks(60, 3, " + what + ")", Edges::busy, x -> x.weeks(60, 3, of));
            onlyTells("weeks(60, 3, " + what + ") of twelve", Edges::full, x -> x.weeks(60, 3, of));
            onlyTells("weeks(1, 0, " + what + ")", Edges::busy, x -> x.weeks(1, 0, of));
        }
    }

    private static void whoHasATurn() {
        due("nobody owes", square().weeks(60, 5, 3), 5);
        due("nobody is there", under("-;01;1").weeks(60, 5, 3), 5);
        // 1 and 3 owe: the first draws are those of 1, who knows 0, while 3 does not
        FavoursGoRound x = under("-;01,12,23;9", 0, 0, 0, 0);
        x.favour(2, 1, 5, NONE);
        x.favour(2, 3, 5, NONE);
        int first = seedOf(2, 0, 4, 0, 2, 1);
        due("1 has the first draws", x.weeks(1, first, 0), 3);
        due("3 has the next", x.weeks(1, first, 3), after(first, 3));
        int second = seedOf(2, 1, 2, 0, 4, 0);
        due("3 has the next, and does not know 0", x.weeks(1, second, 0), 2);
        due("3 has the next", x.weeks(1, second, 3), after(second, 3));
        // 2 owes as soon as 1 has done it, and his turn is still to come; that of 0 has gone
        FavoursGoRound y = squareBegun();
        int later = seedOf(2, 0, 4, 2, 2, 0, 4, 3, 2, 0, 4, 0);
        due("2, and 3 behind him, have a turn", y.weeks(1, later, 0), 4);
        due("0 has none any more", y.weeks(1, later, 3), after(later, 6));
        due("in the next week he has", y.weeks(2, later, 3) == after(later, 6) ? 1 : 0, 0);
        int once = seedOf(2, 1, 2, 1, 2, 1);
        due("three weeks, a draw each", y.weeks(3, once, 3), after(once, 3));
        FavoursGoRound two = square();
        two.favour(0, 1, 5, NONE);
        two.favour(0, 1, 5, NONE);
        due("who owes two has one turn", two.weeks(1, once, 3), after(once, 1));
    }

    private static void whoDoesNothing() {
        FavoursGoRound x = squareBegun();
        int idle = seedOf(2, 1, 4, 2);
        due("nothing", x.weeks(1, idle, 0), 1);
        due("one draw", x.weeks(1, idle, 3), next(idle));
        int does = seedOf(2, 0, 4, 2, 2, 1);
        due("something", x.weeks(1, does, 0), 2);
        due("something, and 2 nothing", x.weeks(1, does, 3), after(does, 3));
    }

    private static void forWhom() {
        FavoursGoRound x = squareBegun();
        int[] many = {1, 1, 2, 1};
        int[] draws = {2, 2, 3, 2};
        for (int whom = 0; whom < 4; whom++) {
            int seed = seedOf(2, 0, 4, whom, 2, 1);
            due("for " + whom, x.weeks(1, seed, 0), many[whom]);
            due("for " + whom, x.weeks(1, seed, 3), after(seed, draws[whom]));
        }
        FavoursGoRound six = under("-;01,15;9", 0, 0, 0, 0, 0, 0);
        six.favour(0, 1, 5, NONE);
        due("for the last of six", six.weeks(1, seedOf(2, 0, 6, 5, 2, 1), 0), 2);
        FavoursGoRound sailor = under("-;01;9", PERSON, SAILOR, PERSON);
        sailor.favour(0, 1, 5, NONE);
        due("for himself, though he knows everybody", sailor.weeks(1, seedOf(2, 0, 3, 1, 2, 1), 0), 1);
        due("for another one", sailor.weeks(1, seedOf(2, 0, 3, 2, 2, 1), 0), 2);
        FavoursGoRound two = under("-;01;9", 0, 0);
        two.favour(0, 1, 5, NONE);
        due("of two there is no lawful one", two.weeks(60, 1, 0), 1);
    }

    private static void leastOneIsRepaid() {
        FavoursGoRound x = under("-;01,12,20;9", 0, 0, 0);
        x.favour(0, 1, 5, NONE);
        x.favour(2, 1, 5, NONE);
        // for 0 the first one may not be repaid, though the second one could be
        int toZero = seedOf(2, 0, 3, 0);
        due("not the second one", x.weeks(1, toZero, 0), 2);
        int toTwo = seedOf(2, 0, 3, 2, 2, 1);
        due("the first one", x.weeks(1, toTwo, 0), 3);
        FavoursGoRound late = under("-;01,12,20;1", 0, 0, 0);
        late.favour(0, 1, 5, NONE);
        weeks(late, 2);
        late.favour(0, 1, 5, NONE);
        due("it is late, and the second one is not looked at", late.weeks(1, toTwo, 0), 2);
    }

    private static FavoursGoRound triangleOfWidows(int worth) {
        FavoursGoRound x = under("-;01,12,20;9", WIDOW, PERSON, WIDOW);
        x.favour(0, 1, worth, NONE);
        return x;
    }

    private static void justAsMuch() {
        int most = 0;
        for (int seed = 0; seed < 40; seed++) {
            for (int what = 0; what < 4; what++) {
                int as = triangleOfWidows(50).weeks(20, seed, what);
                most = what == 0 ? Math.max(most, as) : most;
                due("of 1", triangleOfWidows(1).weeks(20, seed, what), as);
                due("of 99", triangleOfWidows(99).weeks(20, seed, what), as);
            }
        }
        due("whether there came more than four by some seed", most > 4 ? 1 : 0, 1);
    }

    private static void noTwelveFavours() {
        FavoursGoRound eleven = square();
        for (int n = 0; n < 11; n++) {
            eleven.favour(0, 1, 5, NONE);
        }
        int both = seedOf(2, 0, 4, 2, 2, 0, 4, 3);
        due("the twelfth, and no more", eleven.weeks(1, both, 0), 12);
        due("the draws go on", eleven.weeks(1, both, 3), after(both, 4));
        due("one is repaid", eleven.weeks(1, both, 1), 11);
        due("never more", eleven.weeks(60, both, 0), 12);
        FavoursGoRound twelve = square();
        for (int n = 0; n < 12; n++) {
            twelve.favour(0, 1, 5, NONE);
        }
        due("twelve", twelve.weeks(60, both, 0), 12);
        due("none is repaid", twelve.weeks(60, both, 1), 12);
        due("the draws go on", twelve.weeks(60, both, 3), seedOfOneWhoOwes(both, 60));
        due("unlawful: a miser", miserOwes().weeks(60, 2, 0), 1);
        due("unlawful: kin", kinAlone().weeks(60, 2, 0), 1);
    }

    /** 1 knows but 0, who did it, and 2, who is kin of 0. */
    private static FavoursGoRound kinAlone() {
        FavoursGoRound x = under("02;01,12;9", 0, 0, 0);
        x.favour(0, 1, 5, NONE);
        return x;
    }

    private static void termsGoOut() {
        // idle in two weeks, and then it would be done for 2, who is idle
        int seed = seedOf(2, 1, 2, 1, 2, 0, 3, 2, 2, 1);
        for (int term = 1; term <= 3; term++) {
            FavoursGoRound x = under("-;01,12,20;" + term, 0, 0, 0);
            x.favour(0, 1, 5, NONE);
            due("in the third week, term " + term, x.weeks(3, seed, 0), term == 1 ? 1 : 2);
            x.week();
            due("in the fourth week, term " + term, x.weeks(3, seed, 0), term <= 2 ? 1 : 2);
        }
        FavoursGoRound begun = under("-;01,12,20;1", 0, 0, 0);
        begun.weeks(60, seed, 0);
        weeks(begun, 7);
        begun.favour(0, 1, 5, NONE);
        int atOnce = seedOf(2, 0, 3, 2, 2, 1);
        due("of the week that it is, not of the first one", begun.weeks(1, atOnce, 0), 2);
        weeks(begun, 1);
        due("in the last week", begun.weeks(1, atOnce, 0), 2);
        weeks(begun, 1);
        due("late", begun.weeks(1, atOnce, 0), 1);
        // done in the second week, so that the term of 2 begins there
        FavoursGoRound y = under("-;01,12,20;1", 0, 0, 0);
        y.favour(0, 1, 5, NONE);
        int second = seedOf(2, 1, 2, 0, 3, 2, 2, 1, 2, 0, 3, 0);
        due("it is of the week in which it is done", y.weeks(3, second, 0), 3);
    }

    private static void seedsWrap() {
        for (int seed : new int[] {0, 1, 2, 3, 65535, 65536, 1 << 30, (1 << 30) - 1, HIGH - 1, HIGH}) {
            due("of the seed " + seed, miserOwes().weeks(1, seed, 3), seedOfOneWhoOwes(seed, 1));
            due("of the seed " + seed + ", 60 weeks", miserOwes().weeks(60, seed, 3), seedOfOneWhoOwes(seed, 60));
        }
        due("of 0 the next one, by hand", next(0), 12345);
        due("of 1 the next one, by hand", next(1), 1103527590);
    }

    private static void drawsOfASeed() {
        // 12345 by 65536 is 0: he does something; the next one is by hand 1406932606, by 65536 21468
        due("the next but one of 0", after(0, 2), 1406932606);
        due("its draw of 4", after(0, 2) / 65536 % 4, 0);
        due("0 is who did it", squareBegun().weeks(1, 0, 0), 1);
        due("two draws", squareBegun().weeks(1, 0, 3), 1406932606);
        // the highest seeds have draws that are no less than 0
        int high = seedAbove(2147480000);
        due("a high seed", miserOwes().weeks(1, high, 3), seedOfOneWhoOwes(high, 1));
    }

    /** A seed whose next one is as high as that. */
    private static int seedAbove(int least) {
        for (int seed = 0; seed < HIGH; seed++) {
            if (next(seed) >= least) {
                return seed;
            }
        }
        return 0;
    }

    private static void whatOfWeeks() {
        // 1 does it for 2, who does it for 0: home
        int seed = seedOf(2, 0, 3, 2, 2, 0, 3, 0);
        int[] due = {3, 1, 1, after(seed, 4)};
        for (int what = 0; what < 4; what++) {
            due("what = " + what, triangle().weeks(1, seed, what), due[what]);
        }
        int[] as = {1, 1, 0, after(seedOf(2, 1), 1)};
        for (int what = 0; what < 4; what++) {
            due("nothing is done, what = " + what, triangle().weeks(1, seedOf(2, 1), what), as[what]);
        }
        due("twelve", full().weeks(1, 0, 0), 12);
        due("the last one is not repaid", full().weeks(1, 0, 1), 1);
        due("home already", full().weeks(1, 0, 2), 1);
    }

    private static void howManyWeeks() {
        for (int many : new int[] {0, 61, -1, LOW, HIGH}) {
            refused("weeks(" + many + ", 0, 0)", Edges::busy, x -> x.weeks(many, 0, 0), OUTSIDE);
            refused("weeks(" + many + ", 0, 3), no law", Edges::lawless, x -> x.weeks(many, 0, 3), OUTSIDE);
        }
        due("1", miserOwes().weeks(1, 9, 0), 1);
        due("60", miserOwes().weeks(60, 9, 0), 1);
    }

    private static void whichSeeds() {
        for (int seed : new int[] {-1, -2, LOW, LOW + 1}) {
            refused("weeks(1, " + seed + ", 0)", Edges::busy, x -> x.weeks(1, seed, 0), OUTSIDE);
            refused("weeks(1, " + seed + ", 3), no law", Edges::lawless, x -> x.weeks(1, seed, 3), OUTSIDE);
        }
        due("0", square().weeks(1, 0, 3), 0);
        due("the greatest", square().weeks(1, HIGH, 3), HIGH);
    }

    private static void weeksOutside() {
        for (int what : new int[] {-1, 4, LOW, HIGH}) {
            refused("weeks(1, 0, " + what + ")", Edges::busy, x -> x.weeks(1, 0, what), OUTSIDE);
            refused("weeks(1, 0, " + what + "), no law", Edges::lawless, x -> x.weeks(1, 0, what), OUTSIDE);
        }
    }

    private static void weeksWithNoLaw() {
        for (int what = 0; what < 4; what++) {
            int of = what;
            refused("weeks(1, 0, " + what + ")", Edges::lawless, x -> x.weeks(1, 0, of), STATE);
            refused("weeks(60, HIGH, " + what + ")", FavoursGoRound::new, x -> x.weeks(60, HIGH, of), STATE);
        }
        due("under a law", under("-;01;1").weeks(60, HIGH, 0), 0);
    }
}
