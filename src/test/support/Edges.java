import java.io.IOException;
import java.nio.file.Files;
import java.nio.file.Path;
import java.util.ArrayList;
import java.util.BitSet;
import java.util.List;
import java.util.function.Supplier;
import java.util.function.ToLongFunction;
import java.util.regex.Matcher;
import java.util.regex.Pattern;

/** What the tests of the edges share: sentences of the document, answers that are due, twins to compare with. */
abstract class Edges {
    static final int NONE = -1, UNKNOWN = -101, OUTSIDE = -102, STATE = -103, FULL = -104;
    static final int PERSON = 0, MISER = 1, WIDOW = 2, SAILOR = 3, CAPTAIN = 4;
    static final int LOW = Integer.MIN_VALUE, HIGH = Integer.MAX_VALUE;
    /** Where the words stand that belong to no promise of their own. */
    static final int LIMIT = -1, TERMS = 0;
    static final int PROMISES = 27;

    private static final List<String> TEXTS = new ArrayList<>();
    private static final List<BitSet> QUOTED = new ArrayList<>();
    private static int sentences = 0;
    private static int wrong = 0;
    private static String now = "";
    private static boolean failedHere = false;

    // ---- sentences of the document

    /** A test for words of the document, which have to stand there as they are told here. */
    static void sentence(int where, String words, Runnable test) {
        now = (where > 0 ? "promise " + where : "terms") + ", \"" + words + "\"";
        failedHere = false;
        int place = where - LIMIT;
        String text = texts().get(place);
        int from = text.indexOf(words);
        if (from < 0) {
            fail("the document has no such words there");
        }
        for (; from >= 0; from = text.indexOf(words, from + 1)) {
            QUOTED.get(place).set(from, from + words.length());
        }
        sentences++;
        test.run();
    }

    private static List<String> texts() {
        if (TEXTS.isEmpty()) {
            String all = document();
            TEXTS.add(part(all, "(An object is used for at most 512 calls.*?)## The public face"));
            TEXTS.add(part(all, "## Terms(.*?)Ahead of the calls"));
            for (int promise = 1; promise <= PROMISES; promise++) {
                TEXTS.add(part(all, "## Promise " + promise + ":.*?`: (.*?)## "));
            }
            for (int place = 0; place < TEXTS.size(); place++) {
                QUOTED.add(new BitSet());
            }
        }
        return TEXTS;
    }

    private static String document() {
        try {
            return Files.readString(Path.of("../shared/DOC.md"));
        } catch (IOException missing) {
            throw new IllegalStateException("there is no ../shared/DOC.md", missing);
        }
    }

    private static String part(String all, String pattern) {
        Matcher matcher = Pattern.compile(pattern, Pattern.DOTALL).matcher(all);
        if (!matcher.find()) {
            throw new IllegalStateException("the document has no " + pattern);
        }
        return matcher.group(1).replaceAll("```(text)?|======== \\d", " ").replaceAll("\\s+", " ").trim();
    }

    /** Words of the document that no test has quoted. */
    private static void lookForWordsLeft() {
        for (int place = 0; place < texts().size(); place++) {
            StringBuilder left = new StringBuilder(texts().get(place));
            QUOTED.get(place).stream().forEach(at -> left.setCharAt(at, ' '));
            String words = left.toString().replaceAll("[^A-Za-z0-9]+", " ").trim();
            if (!words.isEmpty()) {
                now = "part " + (place + LIMIT);
                fail("no test quotes: " + words);
            }
        }
    }

    static void end() {
        lookForWordsLeft();
        System.out.println(wrong == 0 ? sentences + " sentences hold at their edges" : wrong + " answers are not as due");
        if (wrong != 0) {
            System.exit(1);
        }
    }

    // ---- answers

    static void fail(String what) {
        wrong++;
        failedHere = true;
        System.out.println(now + ": " + what);
    }

    static void due(String call, long got, long want) {
        if (got != want) {
            fail(call + " answered " + got + ", due is " + want);
        }
    }

    /**
     * Two objects made alike: one has a call refused, and then they tell the same of everything. Where a
     * near number was not refused, a wild one is not tried: a length of 2147483647 would not end.
     */
    static void refused(String call, Supplier<FavoursGoRound> made, ToLongFunction<FavoursGoRound> act, long want) {
        if (failedHere) {
            return;
        }
        FavoursGoRound x = made.get();
        due(call, act.applyAsLong(x), want);
        same("behind " + call, x, made.get());
    }

    /** A call that answers, and changes nothing. */
    static void onlyTells(String call, Supplier<FavoursGoRound> made, ToLongFunction<FavoursGoRound> act) {
        FavoursGoRound x = made.get();
        if (act.applyAsLong(x) < NONE) {
            fail(call + " is refused");
        }
        same("behind " + call, x, made.get());
    }

    /** It ends both of them: at the end the hidden things, the IMAGE and THE PAGE, are brought out. */
    static void same(String what, FavoursGoRound x, FavoursGoRound twin) {
        List<Long> got = allToldOf(x);
        List<Long> want = allToldOf(twin);
        if (!got.equals(want)) {
            fail(what + " not all is as it was: " + got + ", due is " + want);
        }
    }

    private static List<Long> allToldOf(FavoursGoRound x) {
        List<Long> told = new ArrayList<>();
        told.add(x.digest());
        told.add((long) x.fault());
        int people = x.count(3);
        int favours = x.count(4);
        for (int place = 0; place < x.count(8); place++) {
            told.add((long) x.sure(place));
        }
        for (int favour = 0; favour < favours; favour++) {
            for (int person = 0; person < people; person++) {
                told.add((long) x.way(favour, person, 0));
                told.add((long) x.bars(favour, person));
                told.add((long) x.meeting(favour, person));
            }
        }
        told.add((long) x.weeks(20, 7, 3));
        return withHiddenOnesOf(x, told);
    }

    private static List<Long> withHiddenOnesOf(FavoursGoRound x, List<Long> told) {
        told.add((long) x.letter('1'));
        told.add((long) x.fault());
        told.add((long) x.thanks(NONE));
        told.add((long) x.week());
        told.add(x.digest());
        told.add((long) x.restore());
        told.add(x.digest());
        told.add((long) x.law());
        told.add(x.digest());
        return told;
    }

    // ---- objects to begin with

    static void write(FavoursGoRound x, String text) {
        for (char sign : text.toCharArray()) {
            x.letter(sign);
        }
    }

    static FavoursGoRound page(String text) {
        FavoursGoRound x = new FavoursGoRound();
        write(x, text);
        return x;
    }

    static int faultOf(String text) {
        return page(text).fault();
    }

    static int lawOf(String text) {
        return page(text).law();
    }

    static FavoursGoRound under(String law, int... kinds) {
        FavoursGoRound x = page(law);
        if (x.law() < 1) {
            fail("no law: " + law);
        }
        for (int kind : kinds) {
            x.person(kind);
        }
        return x;
    }

    static void weeks(FavoursGoRound x, int many) {
        for (int n = 0; n < many; n++) {
            x.week();
        }
    }

    /** A ring of four, 0 to 3, of whom two that are not side by side have not met. */
    static FavoursGoRound square() {
        return under("-;01,12,23,30;9", PERSON, PERSON, PERSON, PERSON);
    }

    static FavoursGoRound sixSailors() {
        return under("-;01;9", SAILOR, SAILOR, SAILOR, SAILOR, SAILOR, SAILOR);
    }

    /** Something of everything, none of it full: five people, four favours (two are repaid), an older image. */
    static FavoursGoRound busy() {
        FavoursGoRound x = under("04;01,12,23,30,15;3", PERSON, WIDOW, PERSON, CAPTAIN, MISER);
        x.favour(0, 1, 10, NONE);
        x.favour(1, 2, 9, 0);
        x.thanks(0);
        x.image();
        x.week();
        x.favour(3, 4, 5, NONE);
        x.favour(2, 3, 9, 1);
        x.thanks(NONE);
        x.thanks(2);
        write(x, "-;0");
        return x;
    }

    /** All is full: six people, twelve favours twice round a ring of six, seven in the diary, 54 letters. */
    static FavoursGoRound full() {
        FavoursGoRound x = under("-;01,12,23,34,45,50;9", 0, 0, 0, 0, 0, 0);
        for (int n = 0; n < 12; n++) {
            x.favour(n % 6, (n + 1) % 6, 5, n - 1);
        }
        x.image();
        for (int n = 0; n < 7; n++) {
            x.thanks(n % 6);
        }
        for (int n = 0; n < 54; n++) {
            x.letter('5');
        }
        return x;
    }

    static FavoursGoRound lawless() {
        FavoursGoRound x = page("-;");
        x.thanks(NONE);
        return x;
    }
}
