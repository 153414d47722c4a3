/** Favours that are never repaid to whoever did them, nor to his kin, so that thanks go round by strangers. */
public final class FavoursGoRound {
    public static final int NONE = -1, UNKNOWN = -101, OUTSIDE = -102, STATE = -103, FULL = -104;

    private static final int MOST_PEOPLE = 6;
    private static final int MOST_FAVOURS = 12;
    private static final int MOST_LETTERS = 54;
    private static final int MOST_IN_DIARY = 7;
    private static final int MOST_KIN = 5;
    private static final int MOST_MET = 12;
    private static final int MOST_WORTH = 99;
    private static final int LONGEST_WAY = 8;
    private static final int LONGEST_RING = 6;
    private static final int MOST_WEEKS = 60;

    private static final int PERSON = 0;
    private static final int MISER = 1;
    private static final int WIDOW = 2;
    private static final int SAILOR = 3;
    private static final int CAPTAIN = 4;

    private static final int LAST_OF_ABOUT = 5;
    private static final int LAST_OF_DEED = 7;
    private static final int LAST_OF_COUNT = 10;

    private final Page page;
    private final LawReader reader;
    private final Folk folk;
    private final Steps steps;
    private final Ways ways;
    private final Tallies tallies;
    private final Ledger ledger;
    private final Ledger trial;
    private final Diary diary;
    private final Ledger keptLedger;
    private final Diary keptDiary;
    /** How often a LAW was read; 0 as long as there is no LAW. */
    private int readings;
    /** Which reading of a LAW the IMAGE belongs to; 0 as long as none was kept. */
    private int keptReading;
    private int keptPeople;

    public FavoursGoRound() {
        page = new Page();
        reader = new LawReader();
        folk = new Folk();
        steps = new Steps(folk);
        ways = new Ways(folk, steps);
        tallies = new Tallies(folk, steps);
        ledger = new Ledger();
        trial = new Ledger();
        diary = new Diary();
        keptLedger = new Ledger();
        keptDiary = new Diary();
    }

    // ---- the law

    public int letter(int code) {
        if (code < 1 || code > 126) {
            return OUTSIDE;
        }
        if (page.size >= MOST_LETTERS) {
            return FULL;
        }
        page.add(code);
        return page.size;
    }

    public int blank() {
        int had = page.size;
        page.size = 0;
        return had;
    }

    public int fault() {
        return reader.read(page);
    }

    public int law() {
        int good = reader.read(page);
        if (good != page.size || !reader.isWhole()) {
            return STATE;
        }
        folk.begin(reader);
        ledger.clear();
        diary.size = 0;
        page.size = 0;
        readings++;
        return folk.met.size;
    }

    public int between(int a, int b) {
        if (!folk.areTwo(a, b)) {
            return UNKNOWN;
        }
        if (folk.akin(a, b)) {
            return 3;
        }
        return folk.know(a, b) ? 2 : 0;
    }

    // ---- people, favours

    public int person(int kind) {
        if (kind < PERSON || kind > CAPTAIN) {
            return OUTSIDE;
        }
        if (readings == 0) {
            return STATE;
        }
        if (folk.size >= MOST_PEOPLE) {
            return FULL;
        }
        int number = folk.add(kind);
        steps.supposeNothing();
        return number;
    }

    public int about(int person, int what) {
        if (!folk.has(person)) {
            return UNKNOWN;
        }
        if (what < 0 || what > LAST_OF_ABOUT) {
            return OUTSIDE;
        }
        switch (what) {
            case 0:
                return folk.kinds[person];
            case 1:
                return ledger.doneBy(person);
            case 2:
                return ledger.doneFor(person);
            case 3:
                return ledger.owedBy(person);
            case 4:
                return ledger.lateOf(person, folk.termOf(person));
            default:
                return folk.termOf(person);
        }
    }

    public int as(int person, int kind) {
        if (!folk.has(person)) {
            return UNKNOWN;
        }
        if (kind < PERSON || kind > CAPTAIN) {
            return OUTSIDE;
        }
        return folk.isA(person, kind) ? person : NONE;
    }

    public int may(int a, int b, int worth, int repays) {
        if (!folk.areTwo(a, b) || repays != NONE && !ledger.has(repays)) {
            return UNKNOWN;
        }
        if (worth < 1 || worth > MOST_WORTH) {
            return OUTSIDE;
        }
        return ledger.isLawful(folk, a, b, worth, repays) ? 1 : 0;
    }

    public int favour(int a, int b, int worth, int repays) {
        int lawful = may(a, b, worth, repays);
        if (lawful < 0) {
            return lawful;
        }
        if (lawful == 0) {
            return STATE;
        }
        if (ledger.isFull()) {
            return FULL;
        }
        return ledger.add(a, b, worth, repays);
    }

    public int deed(int favour, int what) {
        if (!ledger.has(favour)) {
            return UNKNOWN;
        }
        if (what < 0 || what > LAST_OF_DEED) {
            return OUTSIDE;
        }
        switch (what) {
            case 0:
                return ledger.by[favour];
            case 1:
                return ledger.to[favour];
            case 2:
                return ledger.worth[favour];
            case 3:
                return ledger.done[favour];
            case 4:
                return ledger.repays[favour];
            case 5:
                return ledger.repaidBy[favour];
            case 6:
                return ledger.aheadOf(favour);
            default:
                return ledger.isHome(ledger.firstOf(favour)) ? 1 : 0;
        }
    }

    public int week() {
        if (readings == 0) {
            return STATE;
        }
        ledger.now++;
        return ledger.now;
    }

    // ---- what would be

    public int way(int favour, int person, int what) {
        if (!ledger.has(favour) || !folk.has(person)) {
            return UNKNOWN;
        }
        if (what < 0 || what > 1) {
            return OUTSIDE;
        }
        if (!ledger.isOpen(favour)) {
            return STATE;
        }
        int length = ways.shortest(ledger.by[favour], ledger.to[favour], person);
        if (length == NONE) {
            return NONE;
        }
        return what == 0 ? length : ways.leastFirstTo(person);
    }

    public int reach(int favour) {
        if (!ledger.has(favour)) {
            return UNKNOWN;
        }
        if (!ledger.isOpen(favour)) {
            return STATE;
        }
        return ways.reached(ledger.by[favour], ledger.to[favour]);
    }

    public int bars(int favour, int person) {
        if (!ledger.has(favour) || !folk.has(person)) {
            return UNKNOWN;
        }
        if (!ledger.isOpen(favour)) {
            return STATE;
        }
        return ways.leastBar(ledger.by[favour], ledger.to[favour], person);
    }

    public int meeting(int favour, int person) {
        if (!ledger.has(favour) || !folk.has(person)) {
            return UNKNOWN;
        }
        if (!ledger.isOpen(favour)) {
            return STATE;
        }
        return ways.bestMeeting(ledger.by[favour], ledger.to[favour], person);
    }

    public int rings(int person, int length) {
        if (!folk.has(person)) {
            return UNKNOWN;
        }
        if (length < 2 || length > LONGEST_RING) {
            return OUTSIDE;
        }
        return tallies.ringsOf(person, length);
    }

    // ---- a diary

    public int thanks(int person) {
        if (person != NONE && !folk.has(person)) {
            return UNKNOWN;
        }
        if (diary.size >= MOST_IN_DIARY) {
            return FULL;
        }
        diary.add(person);
        return diary.size;
    }

    public int forget() {
        int had = diary.size;
        diary.size = 0;
        return had;
    }

    public int fits() {
        return tallies.fitsOf(diary);
    }

    public int sure(int place) {
        if (place < 0 || place >= diary.size) {
            return UNKNOWN;
        }
        return tallies.onlyOneAt(diary, place);
    }

    public int weeks(int weeks, int seed, int what) {
        if (weeks < 1 || weeks > MOST_WEEKS || seed < 0 || what < 0 || what > 3) {
            return OUTSIDE;
        }
        if (readings == 0) {
            return STATE;
        }
        trial.copyFrom(ledger);
        Draws draws = new Draws(seed);
        for (int n = 0; n < weeks; n++) {
            liveTrialWeek(draws);
        }
        switch (what) {
            case 0:
                return trial.size;
            case 1:
                return trial.openOnes();
            case 2:
                return trial.homeChains();
            default:
                return draws.seed;
        }
    }

    private void liveTrialWeek(Draws draws) {
        for (int who = 0; who < folk.size; who++) {
            int owed = trial.leastOwedBy(who);
            if (owed != NONE) {
                repayByDraw(who, owed, draws);
            }
        }
        trial.now++;
    }

    private void repayByDraw(int who, int owed, Draws draws) {
        if (draws.drawOf(2) == 1) {
            return;
        }
        int whom = draws.drawOf(folk.size);
        if (trial.isFull()) {
            return;
        }
        int worth = trial.worth[owed];
        if (trial.isLawful(folk, who, whom, worth, owed)) {
            trial.add(who, whom, worth, owed);
        }
    }

    // ---- what is told of all

    public int image() {
        if (readings == 0) {
            return STATE;
        }
        keptLedger.copyFrom(ledger);
        keptDiary.copyFrom(diary);
        keptReading = readings;
        keptPeople = folk.size;
        return ledger.now;
    }

    public int restore() {
        if (keptReading == 0 || keptReading != readings || keptPeople != folk.size) {
            return STATE;
        }
        ledger.copyFrom(keptLedger);
        diary.copyFrom(keptDiary);
        return ledger.now;
    }

    public int count(int what) {
        switch (what) {
            case 0:
                return folk.met.size;
            case 1:
                return folk.kin.size;
            case 2:
                return folk.term;
            case 3:
                return folk.size;
            case 4:
                return ledger.size;
            case 5:
                return ledger.openOnes();
            case 6:
                return ledger.now;
            case 7:
                return ledger.homeChains();
            case 8:
                return diary.size;
            case 9:
                return page.size;
            case 10:
                return readings;
            default:
                return OUTSIDE;
        }
    }

    public long digest() {
        long h = 743;
        for (int person = 0; person < folk.size; person++) {
            h = withPerson(h, person);
        }
        for (int favour = 0; favour < ledger.size; favour++) {
            h = withFavour(h, favour);
        }
        h = with(h, fits());
        for (int place = 0; place < page.size; place++) {
            h = with(h, page.codes[place]);
        }
        for (int what = 0; what <= LAST_OF_COUNT; what++) {
            h = with(h, count(what));
        }
        return h;
    }

    private long withPerson(long before, int person) {
        long h = before;
        for (int what = 0; what <= LAST_OF_ABOUT; what++) {
            h = with(h, about(person, what));
        }
        for (int other = 0; other < folk.size; other++) {
            if (other != person) {
                h = with(h, between(person, other));
            }
        }
        h = with(h, tallies.ringsOf(person, 2));
        return with(h, tallies.ringsOf(person, 3));
    }

    private long withFavour(long before, int favour) {
        long h = before;
        for (int what = 0; what <= LAST_OF_DEED; what++) {
            h = with(h, deed(favour, what));
        }
        if (ledger.isOpen(favour)) {
            h = with(h, ways.reached(ledger.by[favour], ledger.to[favour]));
        }
        return h;
    }

    private static long with(long h, int number) {
        return 31 * h + number;
    }

    /** The place of two people in a row that has one for each two. */
    private static int two(int a, int b) {
        return a * MOST_PEOPLE + b;
    }

    /** THE PAGE: the letters that may become a LAW. */
    private static final class Page {
        final int[] codes = new int[MOST_LETTERS];
        int size;

        void add(int code) {
            codes[size] = code;
            size++;
        }
    }

    /** Pairs of people, whichever of the two is named first. */
    private static final class Pairs {
        private final boolean[] told = new boolean[MOST_PEOPLE * MOST_PEOPLE];
        int size;

        boolean has(int a, int b) {
            return told[a * MOST_PEOPLE + b];
        }

        void add(int a, int b) {
            told[two(a, b)] = true;
            told[two(b, a)] = true;
            size++;
        }

        void clear() {
            for (int i = 0; i < told.length; i++) {
                told[i] = false;
            }
            size = 0;
        }

        void copyFrom(Pairs other) {
            System.arraycopy(other.told, 0, told, 0, told.length);
            size = other.size;
        }
    }

    /** Reads a page letter by letter, as far as some LAW could begin so. */
    private static final class LawReader {
        private static final int AT_START = 0;
        private static final int AT_FIRST_DIGIT = 1;
        private static final int AT_SECOND_DIGIT = 2;
        private static final int BEHIND_PAIR = 3;
        private static final int BEHIND_DASH = 4;
        private static final int AT_TERM = 5;
        private static final int AT_END = 6;

        final Pairs kin = new Pairs();
        final Pairs met = new Pairs();
        int term;
        private int stage;
        private int firstDigit;
        private boolean inKin;

        /** The place of the first letter that no LAW has there, or how many letters there are. */
        int read(Page page) {
            kin.clear();
            met.clear();
            term = 0;
            stage = AT_START;
            inKin = true;
            for (int place = 0; place < page.size; place++) {
                if (!takes(page.codes[place])) {
                    return place;
                }
            }
            return page.size;
        }

        boolean isWhole() {
            return stage == AT_END;
        }

        private boolean takes(int code) {
            switch (stage) {
                case AT_START:
                    return code == '-' ? goTo(BEHIND_DASH) : takesFirstDigit(code);
                case AT_FIRST_DIGIT:
                    return takesFirstDigit(code);
                case AT_SECOND_DIGIT:
                    return takesSecondDigit(code);
                case BEHIND_PAIR:
                    return code == ',' ? takesComma() : takesEndOfPart(code);
                case BEHIND_DASH:
                    return takesEndOfPart(code);
                case AT_TERM:
                    return takesTerm(code);
                default:
                    return false;
            }
        }

        private boolean goTo(int next) {
            stage = next;
            return true;
        }

        private static boolean isOfPeople(int code) {
            return code >= '0' && code < '0' + MOST_PEOPLE;
        }

        private Pairs pairsOfPart() {
            return inKin ? kin : met;
        }

        private boolean takesFirstDigit(int code) {
            if (!isOfPeople(code)) {
                return false;
            }
            firstDigit = code - '0';
            return goTo(AT_SECOND_DIGIT);
        }

        private boolean takesSecondDigit(int code) {
            if (!isOfPeople(code)) {
                return false;
            }
            int digit = code - '0';
            Pairs pairs = pairsOfPart();
            if (digit == firstDigit || pairs.has(firstDigit, digit)) {
                return false;
            }
            pairs.add(firstDigit, digit);
            return goTo(BEHIND_PAIR);
        }

        private boolean takesComma() {
            int most = inKin ? MOST_KIN : MOST_MET;
            return pairsOfPart().size < most && goTo(AT_FIRST_DIGIT);
        }

        private boolean takesEndOfPart(int code) {
            if (code != ';') {
                return false;
            }
            boolean kinEnds = inKin;
            inKin = false;
            return goTo(kinEnds ? AT_FIRST_DIGIT : AT_TERM);
        }

        private boolean takesTerm(int code) {
            if (code < '1' || code > '9') {
                return false;
            }
            term = code - '0';
            return goTo(AT_END);
        }
    }

    /** THE LAW and the PEOPLE under it. */
    private static final class Folk {
        final Pairs kin = new Pairs();
        final Pairs met = new Pairs();
        final int[] kinds = new int[MOST_PEOPLE];
        int term;
        int size;

        void begin(LawReader law) {
            kin.copyFrom(law.kin);
            met.copyFrom(law.met);
            term = law.term;
            size = 0;
        }

        int add(int kind) {
            kinds[size] = kind;
            size++;
            return size - 1;
        }

        boolean has(int person) {
            return person >= 0 && person < size;
        }

        boolean areTwo(int a, int b) {
            return has(a) && has(b) && a != b;
        }

        boolean isA(int person, int kind) {
            int own = kinds[person];
            return kind == PERSON || kind == own || kind == SAILOR && own == CAPTAIN;
        }

        boolean akin(int a, int b) {
            return kin.has(a, b);
        }

        boolean know(int a, int b) {
            return kin.has(a, b) || met.has(a, b) || isA(a, SAILOR) || isA(b, SAILOR);
        }

        int termOf(int person) {
            return isA(person, CAPTAIN) ? 2 * term : term;
        }

        int leastWorthBy(int person, int worth) {
            return isA(person, WIDOW) ? worth - 1 : worth;
        }
    }

    /** FAVOURS, and the week that it is. */
    private static final class Ledger {
        final int[] by = new int[MOST_FAVOURS];
        final int[] to = new int[MOST_FAVOURS];
        final int[] worth = new int[MOST_FAVOURS];
        final int[] done = new int[MOST_FAVOURS];
        final int[] repays = new int[MOST_FAVOURS];
        final int[] repaidBy = new int[MOST_FAVOURS];
        int size;
        int now;

        void clear() {
            size = 0;
            now = 0;
        }

        void copyFrom(Ledger other) {
            System.arraycopy(other.by, 0, by, 0, MOST_FAVOURS);
            System.arraycopy(other.to, 0, to, 0, MOST_FAVOURS);
            System.arraycopy(other.worth, 0, worth, 0, MOST_FAVOURS);
            System.arraycopy(other.done, 0, done, 0, MOST_FAVOURS);
            System.arraycopy(other.repays, 0, repays, 0, MOST_FAVOURS);
            System.arraycopy(other.repaidBy, 0, repaidBy, 0, MOST_FAVOURS);
            size = other.size;
            now = other.now;
        }

        boolean has(int favour) {
            return favour >= 0 && favour < size;
        }

        boolean isFull() {
            return size >= MOST_FAVOURS;
        }

        boolean isOpen(int favour) {
            return repaidBy[favour] == NONE;
        }

        boolean isLawful(Folk folk, int a, int b, int price, int old) {
            if (a == b || folk.isA(a, MISER) || !folk.know(a, b)) {
                return false;
            }
            return old == NONE || mayRepay(folk, a, b, price, old);
        }

        private boolean mayRepay(Folk folk, int a, int b, int price, int old) {
            int doer = by[old];
            return to[old] == a
                && isOpen(old)
                && b != doer
                && !folk.akin(b, doer)
                && price >= folk.leastWorthBy(a, worth[old])
                && now - done[old] <= folk.termOf(a);
        }

        int add(int a, int b, int price, int old) {
            int number = size;
            by[number] = a;
            to[number] = b;
            worth[number] = price;
            done[number] = now;
            repays[number] = old;
            repaidBy[number] = NONE;
            if (old != NONE) {
                repaidBy[old] = number;
            }
            size++;
            return number;
        }

        int doneBy(int person) {
            int n = 0;
            for (int favour = 0; favour < size; favour++) {
                if (by[favour] == person) {
                    n++;
                }
            }
            return n;
        }

        int doneFor(int person) {
            int n = 0;
            for (int favour = 0; favour < size; favour++) {
                if (to[favour] == person) {
                    n++;
                }
            }
            return n;
        }

        private boolean owes(int person, int favour) {
            return to[favour] == person && isOpen(favour);
        }

        int owedBy(int person) {
            int n = 0;
            for (int favour = 0; favour < size; favour++) {
                if (owes(person, favour)) {
                    n++;
                }
            }
            return n;
        }

        int lateOf(int person, int term) {
            int n = 0;
            for (int favour = 0; favour < size; favour++) {
                if (owes(person, favour) && now - done[favour] > term) {
                    n++;
                }
            }
            return n;
        }

        int leastOwedBy(int person) {
            for (int favour = 0; favour < size; favour++) {
                if (owes(person, favour)) {
                    return favour;
                }
            }
            return NONE;
        }

        int openOnes() {
            int n = 0;
            for (int favour = 0; favour < size; favour++) {
                if (isOpen(favour)) {
                    n++;
                }
            }
            return n;
        }

        int aheadOf(int favour) {
            int n = 0;
            int at = favour;
            while (n < MOST_FAVOURS && repays[at] != NONE) {
                at = repays[at];
                n++;
            }
            return n;
        }

        int firstOf(int favour) {
            int at = favour;
            for (int n = 0; n < MOST_FAVOURS && repays[at] != NONE; n++) {
                at = repays[at];
            }
            return at;
        }

        /** Whether the CHAIN that a FREE favour begins is HOME. */
        boolean isHome(int free) {
            int at = repaidBy[free];
            for (int n = 0; n < MOST_FAVOURS && at != NONE; n++) {
                if (to[at] == by[free]) {
                    return true;
                }
                at = repaidBy[at];
            }
            return false;
        }

        int homeChains() {
            int n = 0;
            for (int favour = 0; favour < size; favour++) {
                if (repays[favour] == NONE && isHome(favour)) {
                    n++;
                }
            }
            return n;
        }
    }

    /** A DIARY: who each one of a CHAIN is, or NONE. */
    private static final class Diary {
        final int[] who = new int[MOST_IN_DIARY];
        int size;

        void add(int person) {
            who[size] = person;
            size++;
        }

        void copyFrom(Diary other) {
            System.arraycopy(other.who, 0, who, 0, MOST_IN_DIARY);
            size = other.size;
        }
    }

    /** DRAWS by a SEED. */
    private static final class Draws {
        int seed;

        Draws(int first) {
            seed = first;
        }

        int drawOf(int many) {
            seed = (int) ((1103515245L * seed + 12345L) & 0x7fffffffL);
            return many < 1 ? 0 : seed / 65536 % many;
        }
    }

    /**
     * Who may do a favour next FOR whom, as PEOPLE follow one another in a CHAIN. Held as tables,
     * since searches ask it of every three again and again, and so that one can suppose otherwise.
     */
    private static final class Steps {
        private final Folk folk;
        private final boolean[] gives = new boolean[MOST_PEOPLE * MOST_PEOPLE];
        private final boolean[] shuns = new boolean[MOST_PEOPLE * MOST_PEOPLE];

        Steps(Folk people) {
            folk = people;
        }

        void supposeNothing() {
            for (int a = 0; a < folk.size; a++) {
                for (int b = 0; b < folk.size; b++) {
                    gives[two(a, b)] = a != b && !folk.isA(a, MISER) && folk.know(a, b);
                    shuns[two(a, b)] = a == b || folk.akin(a, b);
                }
            }
        }

        void supposeMiser(int who) {
            for (int whom = 0; whom < folk.size; whom++) {
                gives[two(who, whom)] = false;
            }
        }

        void supposeMet(int a, int b) {
            gives[two(a, b)] = !folk.isA(a, MISER);
            gives[two(b, a)] = !folk.isA(b, MISER);
        }

        boolean begins(int who, int whom) {
            return gives[two(who, whom)];
        }

        /** Whether he FOR whom one was done may pass it on so: not to who did that, nor to his KIN. */
        boolean passes(int doer, int holder, int whom) {
            return !shuns[doer * MOST_PEOPLE + whom] && gives[holder * MOST_PEOPLE + whom];
        }
    }

    /**
     * A number for each two who are the latest ones of a chain, and a row of the same for one
     * favour more. Two are enough: who can come next hangs on the latest two alone.
     */
    private static final class Rows {
        int[] latest = new int[MOST_PEOPLE * MOST_PEOPLE];
        int[] coming = new int[MOST_PEOPLE * MOST_PEOPLE];

        void open(int fill) {
            for (int i = 0; i < coming.length; i++) {
                coming[i] = fill;
            }
        }

        void turn() {
            int[] old = latest;
            latest = coming;
            coming = old;
        }
    }

    /** WAYS: the rows hold the least one FOR whom the first favour can be, or NONE. */
    private static final class Ways {
        private final Folk folk;
        private final Steps steps;
        private final Rows rows = new Rows();
        private final boolean[] touched = new boolean[MOST_PEOPLE];

        Ways(Folk people, Steps lawful) {
            folk = people;
            steps = lawful;
        }

        private void doFirst(int doer, int holder) {
            rows.open(NONE);
            for (int whom = 0; whom < folk.size; whom++) {
                if (steps.passes(doer, holder, whom)) {
                    rows.coming[two(holder, whom)] = whom;
                }
            }
            rows.turn();
        }

        private void doNext() {
            rows.open(NONE);
            for (int doer = 0; doer < folk.size; doer++) {
                for (int holder = 0; holder < folk.size; holder++) {
                    int first = rows.latest[two(doer, holder)];
                    if (first != NONE) {
                        passOn(doer, holder, first);
                    }
                }
            }
            rows.turn();
        }

        private void passOn(int doer, int holder, int first) {
            for (int whom = 0; whom < folk.size; whom++) {
                int place = two(holder, whom);
                int known = rows.coming[place];
                if ((known == NONE || first < known) && steps.passes(doer, holder, whom)) {
                    rows.coming[place] = first;
                }
            }
        }

        /** FOR whom the first one is, of the ways to somebody that are as long as the latest row. */
        int leastFirstTo(int person) {
            int least = NONE;
            for (int doer = 0; doer < folk.size; doer++) {
                int first = rows.latest[two(doer, person)];
                if (first != NONE && (least == NONE || first < least)) {
                    least = first;
                }
            }
            return least;
        }

        /** How many favours the shortest way has; the latest row is that of its end then. */
        int shortest(int doer, int holder, int person) {
            doFirst(doer, holder);
            for (int length = 1; length <= LONGEST_WAY; length++) {
                if (leastFirstTo(person) != NONE) {
                    return length;
                }
                doNext();
            }
            return NONE;
        }

        int reached(int doer, int holder) {
            for (int who = 0; who < MOST_PEOPLE; who++) {
                touched[who] = false;
            }
            doFirst(doer, holder);
            for (int length = 1; length <= LONGEST_WAY; length++) {
                touchEnds();
                doNext();
            }
            int n = 0;
            for (int who = 0; who < MOST_PEOPLE; who++) {
                if (touched[who]) {
                    n++;
                }
            }
            return n;
        }

        private void touchEnds() {
            for (int who = 0; who < folk.size; who++) {
                if (leastFirstTo(who) != NONE) {
                    touched[who] = true;
                }
            }
        }

        int leastBar(int doer, int holder, int person) {
            if (shortest(doer, holder, person) == NONE) {
                return NONE;
            }
            for (int who = 0; who < folk.size; who++) {
                if (who != person && who != holder && isBar(who, doer, holder, person)) {
                    return who;
                }
            }
            return NONE;
        }

        private boolean isBar(int who, int doer, int holder, int person) {
            steps.supposeMiser(who);
            int length = shortest(doer, holder, person);
            steps.supposeNothing();
            return length == NONE;
        }

        int bestMeeting(int doer, int holder, int person) {
            int least = shortest(doer, holder, person);
            int best = NONE;
            for (int a = 0; a < folk.size; a++) {
                for (int b = a + 1; b < folk.size; b++) {
                    int length = folk.know(a, b) ? NONE : shortestHadMet(a, b, doer, holder, person);
                    if (length != NONE && (least == NONE || length < least)) {
                        least = length;
                        best = two(a, b);
                    }
                }
            }
            return best;
        }

        private int shortestHadMet(int a, int b, int doer, int holder, int person) {
            steps.supposeMet(a, b);
            int length = shortest(doer, holder, person);
            steps.supposeNothing();
            return length;
        }
    }

    /** RINGS and DIARIES: the rows hold how many chains there could be. */
    private static final class Tallies {
        private final Folk folk;
        private final Steps steps;
        private final Rows rows = new Rows();
        private final Diary guess = new Diary();

        Tallies(Folk people, Steps lawful) {
            folk = people;
            steps = lawful;
        }

        private static boolean canBe(int person, int told) {
            return told == NONE || told == person;
        }

        private void begin(int toldBeginner, int toldWhom) {
            rows.open(0);
            for (int who = 0; who < folk.size; who++) {
                for (int whom = 0; whom < folk.size; whom++) {
                    if (canBe(who, toldBeginner) && canBe(whom, toldWhom) && steps.begins(who, whom)) {
                        rows.coming[two(who, whom)] = 1;
                    }
                }
            }
            rows.turn();
        }

        private void goOn(int toldWhom) {
            rows.open(0);
            for (int doer = 0; doer < folk.size; doer++) {
                for (int holder = 0; holder < folk.size; holder++) {
                    int many = rows.latest[two(doer, holder)];
                    if (many != 0) {
                        passOn(doer, holder, toldWhom, many);
                    }
                }
            }
            rows.turn();
        }

        private void passOn(int doer, int holder, int toldWhom, int many) {
            for (int whom = 0; whom < folk.size; whom++) {
                if (canBe(whom, toldWhom) && steps.passes(doer, holder, whom)) {
                    rows.coming[two(holder, whom)] += many;
                }
            }
        }

        private int sumOfLatest() {
            int sum = 0;
            for (int many : rows.latest) {
                sum += many;
            }
            return sum;
        }

        int ringsOf(int person, int length) {
            begin(person, NONE);
            for (int favours = 2; favours <= length; favours++) {
                dropEndsAt(person);
                goOn(favours == length ? person : NONE);
            }
            return sumOfLatest();
        }

        /** What has come back to who began it is a ring already, and no part of a longer one. */
        private void dropEndsAt(int person) {
            for (int doer = 0; doer < folk.size; doer++) {
                rows.latest[two(doer, person)] = 0;
            }
        }

        int fitsOf(Diary diary) {
            if (diary.size == 0) {
                return 1;
            }
            if (diary.size == 1) {
                return diary.who[0] == NONE ? folk.size : 1;
            }
            begin(diary.who[0], diary.who[1]);
            for (int place = 2; place < diary.size; place++) {
                goOn(diary.who[place]);
            }
            return sumOfLatest();
        }

        /** Who alone can stand at a place of the diary, or NONE. */
        int onlyOneAt(Diary diary, int place) {
            int only = NONE;
            guess.copyFrom(diary);
            for (int who = 0; who < folk.size; who++) {
                guess.who[place] = who;
                if (canBe(who, diary.who[place]) && fitsOf(guess) > 0) {
                    if (only != NONE) {
                        return NONE;
                    }
                    only = who;
                }
            }
            return only;
        }
    }
}
