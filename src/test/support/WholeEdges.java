import java.math.BigInteger;
import java.util.ArrayList;
import java.util.List;

/** Edges of what is told of all: promises 24 to 27, the order of refusals, and the limit of calls. */
final class WholeEdges extends Edges {
    static void all() {
        sentence(TERMS, "An IMAGE keeps FAVOURS, the week, the DIARY.", WholeEdges::whatAnImageKeeps);
        sentence(24, "An IMAGE is kept (one; the latest): the week.", WholeEdges::latestImage);
        sentence(24, "STATE: no LAW.", WholeEdges::imageWithNoLaw);
        sentence(25, "It goes on from the IMAGE: the week.", WholeEdges::itGoesOn);
        sentence(25, "STATE: none was kept", WholeEdges::noImage);
        sentence(25, "or there is another LAW", WholeEdges::anotherLaw);
        sentence(25, "or PEOPLE came, since.", WholeEdges::peopleCame);
        sentence(26, "How many: 0 pairs that have MET, 1 of KIN, 2 TERM (0: no LAW), 3 PEOPLE, 4 favours, "
            + "5 that are not REPAID, 6 the week, 7 CHAINS that are HOME, 8 in the DIARY, 9 letters of THE PAGE, "
            + "10 how often a LAW was read.", WholeEdges::counts);
        sentence(26, "OUTSIDE.", WholeEdges::countOutside);
        sentence(27, "h is 743, then for each of these numbers, in order, 31 times h, and it (as longs, wrapping)",
            WholeEdges::digestsWrap);
        sentence(27, "of each PERSON what about() tells for 0 to 5, for each other one what between() tells, RINGS of 2, 3",
            WholeEdges::digestOfPeople);
        sentence(27, "of each favour what deed() tells for 0 to 7, of one that is not REPAID REACH",
            WholeEdges::digestOfFavours);
        sentence(27, "FITS; letters of THE PAGE; what count() tells for 0 to 10.", WholeEdges::digestOfTheRest);
        sentence(TERMS, "Refusals, of several the first as told by each call: UNKNOWN (a number names nothing), "
            + "OUTSIDE (it is not as told), STATE (as told), FULL", WholeEdges::firstOfSeveral);
        sentence(TERMS, "they change nothing.", WholeEdges::allRefusalsAtOnce);
        sentence(LIMIT, "An object is used for at most 512 calls after it has been made; what later calls answer is free.",
            WholeEdges::fiveHundredAndTwelveCalls);
    }

    // ---- images

    private static void whatAnImageKeeps() {
        FavoursGoRound x = square();
        x.favour(0, 1, 5, NONE);
        x.week();
        x.favour(0, 1, 6, NONE);
        x.thanks(NONE);
        x.thanks(2);
        long before = x.digest();
        x.image();
        weeks(x, 5);
        x.favour(1, 2, 6, 1);
        x.favour(0, 3, 9, NONE);
        x.forget();
        x.thanks(0);
        x.thanks(0);
        x.thanks(0);
        due("the week", x.restore(), 1);
        due("all is as it was", x.digest(), before);
        due("favours", x.count(4), 2);
        due("it is not repaid again", x.deed(1, 5), NONE);
        due("its number is free again", x.deed(2, 0), UNKNOWN);
        due("in the diary", x.count(8), 2);
        due("who is in the diary", x.sure(1), 2);
        due("who is not told", x.sure(0), NONE);
        due("it can be repaid", x.favour(1, 2, 6, 1), 2);
        write(x, "-;0");
        x.restore();
        due("the page is not of it", x.count(9), 3);
        x.blank();
        x.restore();
        due("the page is not of it", x.count(9), 0);
        due("nor is how often a law was read", x.count(10), 1);
    }

    private static void latestImage() {
        FavoursGoRound x = square();
        due("in week 0", x.image(), 0);
        x.week();
        x.favour(0, 1, 5, NONE);
        due("in week 1", x.image(), 1);
        weeks(x, 2);
        due("the latest", x.restore(), 1);
        due("the latest", x.count(4), 1);
        due("it is still there", x.restore(), 1);
        weeks(x, 400);
        due("in week 401", x.image(), 401);
        due("the latest", x.restore(), 401);
        onlyTells("image() again", WholeEdges::justImaged, FavoursGoRound::image);
    }

    private static FavoursGoRound justImaged() {
        FavoursGoRound x = busy();
        x.image();
        return x;
    }

    private static void imageWithNoLaw() {
        refused("image()", Edges::lawless, FavoursGoRound::image, STATE);
        refused("image() of a new object", FavoursGoRound::new, FavoursGoRound::image, STATE);
        FavoursGoRound x = page("-;01;1");
        x.image();
        x.law();
        due("what was refused was not kept", x.restore(), STATE);
        due("under a law", x.image(), 0);
    }

    private static void itGoesOn() {
        FavoursGoRound x = full();
        long before = x.digest();
        x.image();
        weeks(x, 9);
        x.forget();
        due("of twelve favours, of seven in the diary", x.restore(), 0);
        due("all is as it was", x.digest(), before);
        due("it is full", x.favour(0, 1, 5, NONE), FULL);
        due("it is full", x.thanks(0), FULL);
        due("the next week", x.week(), 1);
        FavoursGoRound empty = square();
        empty.image();
        empty.favour(0, 1, 5, NONE);
        empty.thanks(0);
        empty.week();
        due("of nothing", empty.restore(), 0);
        same("it is as a new one with an image,", empty, squareImaged());
        FavoursGoRound late = under("-;01,12;1", 0, 0, 0);
        late.favour(0, 1, 5, NONE);
        late.image();
        weeks(late, 2);
        due("late", late.may(1, 2, 5, 0), 0);
        late.restore();
        due("in time again", late.may(1, 2, 5, 0), 1);
    }

    private static FavoursGoRound squareImaged() {
        FavoursGoRound x = square();
        x.image();
        return x;
    }

    private static void noImage() {
        refused("restore() of a new object", FavoursGoRound::new, FavoursGoRound::restore, STATE);
        refused("restore() with no law", Edges::lawless, FavoursGoRound::restore, STATE);
        refused("restore()", Edges::square, FavoursGoRound::restore, STATE);
    }

    private static FavoursGoRound otherLawCame() {
        FavoursGoRound x = busy();
        x.blank();
        write(x, "-;01;1");
        x.law();
        for (int n = 0; n < 5; n++) {
            x.person(PERSON);
        }
        x.favour(0, 1, 3, NONE);
        return x;
    }

    private static FavoursGoRound sameLawCame() {
        FavoursGoRound x = squareImaged();
        write(x, "-;01,12,23,30;9");
        x.law();
        for (int n = 0; n < 4; n++) {
            x.person(PERSON);
        }
        return x;
    }

    private static void anotherLaw() {
        refused("restore()", WholeEdges::otherLawCame, FavoursGoRound::restore, STATE);
        refused("restore() under the same text", WholeEdges::sameLawCame, FavoursGoRound::restore, STATE);
        FavoursGoRound x = otherLawCame();
        due("an image of the new one", x.image(), 0);
        due("restore()", x.restore(), 0);
        FavoursGoRound y = squareImaged();
        due("no law is read", y.law(), STATE);
        due("so there is no other one", y.restore(), 0);
    }

    private static FavoursGoRound oneCame() {
        FavoursGoRound x = busy();
        x.person(WIDOW);
        return x;
    }

    private static void peopleCame() {
        refused("restore()", WholeEdges::oneCame, FavoursGoRound::restore, STATE);
        FavoursGoRound x = oneCame();
        due("an image of six", x.image(), 1);
        due("restore()", x.restore(), 1);
        FavoursGoRound y = full();
        due("nobody comes", y.person(PERSON), FULL);
        due("nobody comes", y.person(5), OUTSIDE);
        due("so nobody came", y.restore(), 0);
        FavoursGoRound none = under("-;01;1");
        none.image();
        due("nobody is there", none.restore(), 0);
        none.person(PERSON);
        due("the first one came", none.restore(), STATE);
    }

    // ---- counts

    private static void tells(String whose, FavoursGoRound x, int... due) {
        for (int what = 0; what < due.length; what++) {
            due("count(" + what + ") of " + whose, x.count(what), due[what]);
        }
    }

    private static void counts() {
        tells("a new object", new FavoursGoRound(), 0, 0, 0, 0, 0, 0, 0, 0, 0, 0, 0);
        tells("one with no law", lawless(), 0, 0, 0, 0, 0, 0, 0, 0, 1, 2, 0);
        tells("the busy one", busy(), 5, 1, 3, 5, 4, 2, 1, 0, 3, 3, 1);
        tells("the full one", full(), 6, 0, 9, 6, 12, 1, 0, 1, 7, 54, 1);
        tells("another law", otherLawCame(), 1, 0, 1, 5, 1, 1, 0, 0, 0, 0, 2);
        tells("the greatest law", under("01,02,03,04,05;01,02,03,04,05,12,13,14,15,23,24,25;9"), 12, 5, 9);
        FavoursGoRound x = new FavoursGoRound();
        for (int n = 1; n <= 60; n++) {
            write(x, "-;01;1");
            x.law();
            due("how often", x.count(10), n);
        }
        onlyTells("count(10)", Edges::busy, y -> y.count(10));
    }

    private static void countOutside() {
        for (int what : new int[] {-1, 11, LOW, HIGH}) {
            refused("count(" + what + ")", Edges::busy, x -> x.count(what), OUTSIDE);
            refused("count(" + what + ") of a new object", FavoursGoRound::new, x -> x.count(what), OUTSIDE);
        }
        due("the first", busy().count(0), 5);
        due("the last", busy().count(10), 1);
    }

    // ---- digests

    private static List<Integer> ofPeople(FavoursGoRound x) {
        List<Integer> numbers = new ArrayList<>();
        for (int who = 0; who < x.count(3); who++) {
            for (int what = 0; what <= 5; what++) {
                numbers.add(x.about(who, what));
            }
            for (int other = 0; other < x.count(3); other++) {
                if (other != who) {
                    numbers.add(x.between(who, other));
                }
            }
            numbers.add(x.rings(who, 2));
            numbers.add(x.rings(who, 3));
        }
        return numbers;
    }

    private static List<Integer> ofFavours(FavoursGoRound x) {
        List<Integer> numbers = new ArrayList<>();
        for (int favour = 0; favour < x.count(4); favour++) {
            for (int what = 0; what <= 7; what++) {
                numbers.add(x.deed(favour, what));
            }
            if (x.deed(favour, 5) == NONE) {
                numbers.add(x.reach(favour));
            }
        }
        return numbers;
    }

    private static List<Integer> ofTheRest(FavoursGoRound x, String page) {
        List<Integer> numbers = new ArrayList<>();
        numbers.add(x.fits());
        for (char sign : page.toCharArray()) {
            numbers.add((int) sign);
        }
        for (int what = 0; what <= 10; what++) {
            numbers.add(x.count(what));
        }
        return numbers;
    }

    /** Without wrapping, and then the rest that is left of it as a long. */
    private static long over(List<Integer> numbers) {
        BigInteger h = BigInteger.valueOf(743);
        for (int number : numbers) {
            h = h.multiply(BigInteger.valueOf(31)).add(BigInteger.valueOf(number));
        }
        return h.longValue();
    }

    private static void digestIs(String whose, FavoursGoRound x, String page) {
        List<Integer> numbers = ofPeople(x);
        numbers.addAll(ofFavours(x));
        numbers.addAll(ofTheRest(x, page));
        long due = over(numbers);
        due("digest() of " + whose, x.digest(), due);
        due("digest() again of " + whose, x.digest(), due);
    }

    private static void digestsWrap() {
        digestIs("a new object", new FavoursGoRound(), "");
        digestIs("the busy one", busy(), "-;0");
        digestIs("the full one", full(), "5".repeat(54));
        long below = 0;
        long above = 0;
        FavoursGoRound x = new FavoursGoRound();
        for (int n = 0; n < 40; n++) {
            x.letter(1 + n);
            below += x.digest() < 0 ? 1 : 0;
            above += x.digest() > 0 ? 1 : 0;
        }
        due("whether it wraps to both sides", below > 0 && above > 0 ? 1 : 0, 1);
        onlyTells("digest()", () -> page("-;01;1"), y -> y.digest() == 0 ? NONE : 1);
    }

    private static void digestOfPeople() {
        digestIs("nobody", under("-;01;1"), "");
        digestIs("one alone", under("-;01;1", CAPTAIN), "");
        digestIs("six sailors", sixSailors(), "");
        // by hand: kind, did, for him, owes, late, term; the other one; rings of 2, of 3
        List<Integer> byHand = new ArrayList<>(List.of(3, 0, 0, 0, 0, 4, 2, 0, 0, 1, 0, 0, 0, 0, 4, 2, 0, 0));
        byHand.addAll(List.of(1, 1, 0, 4, 2, 0, 0, 0, 0, 0, 0, 1));
        due("by hand", under("-;45;4", SAILOR, MISER).digest(), over(byHand));
    }

    private static void digestOfFavours() {
        FavoursGoRound x = under("-;01;4", PERSON, PERSON, SAILOR);
        x.favour(0, 1, 9, NONE);
        x.favour(1, 2, 9, 0);
        digestIs("one that is repaid, one that is not", x, "");
        // 0, 1 and 2 know each other, so that there are two rings of three for each
        List<Integer> byHand = new ArrayList<>(List.of(0, 1, 0, 0, 0, 4, 2, 2, 0, 2));
        byHand.addAll(List.of(0, 1, 1, 0, 0, 4, 2, 2, 0, 2));
        byHand.addAll(List.of(3, 0, 1, 1, 0, 4, 2, 2, 0, 2));
        byHand.addAll(List.of(0, 1, 9, 0, NONE, 1, 0, 0));
        byHand.addAll(List.of(1, 2, 9, 0, 0, NONE, 1, 0, 3));
        byHand.addAll(List.of(1, 1, 0, 4, 3, 2, 1, 0, 0, 0, 0, 1));
        due("by hand", x.digest(), over(byHand));
        weeks(x, 5);
        digestIs("late ones", x, "");
    }

    private static void digestOfTheRest() {
        FavoursGoRound x = page(String.valueOf((char) 1) + (char) 126);
        x.thanks(NONE);
        due("by hand", x.digest(), over(List.of(0, 1, 126, 0, 0, 0, 0, 0, 0, 0, 0, 1, 2, 0)));
        x.forget();
        x.blank();
        due("nothing", x.digest(), over(List.of(1, 0, 0, 0, 0, 0, 0, 0, 0, 0, 0, 0)));
        digestIs("the diary with nothing told", diaryOfNone(), "");
    }

    private static FavoursGoRound diaryOfNone() {
        FavoursGoRound x = sixSailors();
        for (int n = 0; n < 7; n++) {
            x.thanks(NONE);
        }
        return x;
    }

    // ---- refusals

    private static void firstOfSeveral() {
        FavoursGoRound x = full();
        due("letter: OUTSIDE, FULL", x.letter(0), OUTSIDE);
        due("person: OUTSIDE, FULL", x.person(5), OUTSIDE);
        due("person: OUTSIDE, STATE", lawless().person(5), OUTSIDE);
        due("person: STATE", lawless().person(0), STATE);
        due("about: UNKNOWN, OUTSIDE", x.about(6, 6), UNKNOWN);
        due("as: UNKNOWN, OUTSIDE", x.as(6, 5), UNKNOWN);
        due("may: UNKNOWN, OUTSIDE", x.may(0, 0, 0, NONE), UNKNOWN);
        due("may: UNKNOWN, OUTSIDE", x.may(0, 1, 0, 12), UNKNOWN);
        due("favour: UNKNOWN, OUTSIDE, FULL", x.favour(0, 1, 0, 12), UNKNOWN);
        due("favour: OUTSIDE, STATE, FULL", x.favour(0, 2, 0, NONE), OUTSIDE);
        due("favour: STATE, FULL", x.favour(0, 2, 1, NONE), STATE);
        due("favour: FULL", x.favour(0, 1, 1, NONE), FULL);
        due("deed: UNKNOWN, OUTSIDE", x.deed(12, 8), UNKNOWN);
        due("way: UNKNOWN, OUTSIDE, STATE", x.way(0, 6, 2), UNKNOWN);
        due("way: OUTSIDE, STATE", x.way(0, 0, 2), OUTSIDE);
        due("way: STATE", x.way(0, 0, 0), STATE);
        due("bars: UNKNOWN, STATE", x.bars(0, 6), UNKNOWN);
        due("meeting: UNKNOWN, STATE", x.meeting(0, 6), UNKNOWN);
        due("rings: UNKNOWN, OUTSIDE", x.rings(6, 7), UNKNOWN);
        due("thanks: UNKNOWN, FULL", x.thanks(6), UNKNOWN);
        due("weeks: OUTSIDE, STATE", lawless().weeks(0, -1, 4), OUTSIDE);
        due("weeks: STATE", lawless().weeks(1, 0, 0), STATE);
    }

    private static void allRefusalsAtOnce() {
        FavoursGoRound x = busy();
        int[] answers = {
            x.letter(0), x.law(), x.between(0, 0), x.person(5), x.about(5, 0), x.about(0, 6), x.as(5, 0), x.as(0, 5),
            x.may(0, 0, 1, NONE), x.may(0, 1, 0, NONE), x.favour(0, 1, 1, 4), x.favour(0, 1, 100, NONE),
            x.favour(4, 0, 5, 2), x.deed(4, 0), x.deed(0, 8), x.way(4, 0, 0), x.way(3, 0, 2), x.way(0, 0, 0),
            x.reach(4), x.reach(0), x.bars(4, 0), x.bars(0, 0), x.meeting(4, 0), x.meeting(0, 0), x.rings(5, 2),
            x.rings(0, 1), x.thanks(5), x.sure(3), x.weeks(0, 0, 0), x.weeks(1, -1, 0), x.weeks(1, 0, 4), x.count(11)};
        for (int n = 0; n < answers.length; n++) {
            due("whether call " + n + " is refused", answers[n] <= UNKNOWN ? 1 : 0, 1);
        }
        same("behind all of them", x, busy());
        FavoursGoRound y = full();
        y.letter('-');
        y.person(PERSON);
        y.favour(0, 1, 5, 11);
        y.thanks(NONE);
        same("behind all that it is too full for", y, full());
        FavoursGoRound z = lawless();
        z.person(PERSON);
        z.week();
        z.weeks(1, 0, 0);
        z.image();
        z.restore();
        z.law();
        same("behind all that there is no law for", z, lawless());
    }

    // ---- the limit

    private static void fiveHundredAndTwelveCalls() {
        FavoursGoRound x = under("-;01;1");
        for (int n = 1; n <= 503; n++) {
            x.week();
        }
        due("the 511th call", x.week(), 504);
        due("the 512th call", x.count(6), 504);
        FavoursGoRound y = diaryOfNone();
        for (int n = 0; n < 490; n++) {
            y.rings(0, 2 + n % 5);
        }
        due("the 511th call", y.fits(), 30720);
        due("the 512th call", y.digest(), diaryOfNone().digest());
    }
}
