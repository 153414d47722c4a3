import java.util.ArrayList;
import java.util.HashSet;
import java.util.List;
import java.util.Random;
import java.util.Set;
import java.util.regex.Matcher;
import java.util.regex.Pattern;

/** Runs of drawn calls, each answer compared with a slow model that tries every row of people. */
public final class ModelTest {
    private static final int RUNS = 400;
    private static final int CALLS = 500;

    private static int wrong = 0;

    public static void main(String[] args) {
        for (int run = 0; run < RUNS && wrong < 20; run++) {
            new Run(run).go();
        }
        System.out.println(wrong == 0 ? "all answers are as the model's" : wrong + " answers are not as the model's");
        if (wrong != 0) {
            System.exit(1);
        }
    }

    private static final class Run {
        final int number;
        final Random random;
        final FavoursGoRound real = new FavoursGoRound();
        final Model model = new Model();
        final List<String> told = new ArrayList<>();

        Run(int number) {
            this.number = number;
            this.random = new Random(9000 + number);
        }

        int calls = 0;

        void check(String call, long got, long want) {
            told.add(call);
            calls++;
            if (got != want) {
                wrong++;
                int from = Math.max(0, told.size() - 60);
                System.out.println("run " + number + ": " + call + " answered " + got + ", the model says " + want
                    + "; ahead of it " + told.subList(from, told.size()));
            }
        }

        void go() {
            if (random.nextInt(12) != 0) {
                writeLaw();
            }
            while (calls < CALLS && wrong < 20) {
                call();
            }
        }

        String pairs(int many) {
            StringBuilder text = new StringBuilder();
            Set<Integer> had = new HashSet<>();
            while (had.size() < many) {
                int a = random.nextInt(6);
                int b = random.nextInt(6);
                if (a != b && had.add(Math.min(a, b) * 6 + Math.max(a, b))) {
                    text.append(text.length() == 0 ? "" : ",").append(a).append(b);
                }
            }
            return text.toString();
        }

        void writeLaw() {
            String kin = random.nextInt(3) == 0 ? "-" : pairs(1 + random.nextInt(5));
            StringBuilder text = new StringBuilder(kin + ";" + pairs(1 + random.nextInt(12)) + ";" + (1 + random.nextInt(9)));
            if (random.nextInt(3) == 0) {
                String signs = "0123456789,;-a";
                int at = random.nextInt(text.length() + 1);
                char sign = signs.charAt(random.nextInt(signs.length()));
                if (random.nextBoolean() || at == text.length()) {
                    text.insert(at, sign);
                } else {
                    text.setCharAt(at, sign);
                }
            }
            check("blank()", real.blank(), model.blank());
            for (char sign : text.toString().toCharArray()) {
                check("letter(" + (int) sign + ")", real.letter(sign), model.letter(sign));
                if (random.nextInt(6) == 0) {
                    check("fault()", real.fault(), model.fault());
                }
            }
            check("fault()", real.fault(), model.fault());
            check("law()", real.law(), model.law());
            int people = random.nextInt(8);
            for (int i = 0; i < people; i++) {
                int kind = random.nextInt(2) == 0 ? 0 : random.nextInt(5);
                check("person(" + kind + ")", real.person(kind), model.person(kind));
            }
        }

        int odd(int most) {
            switch (random.nextInt(12)) {
                case 0: return -1;
                case 1: return most;
                case 2: return random.nextBoolean() ? Integer.MAX_VALUE : Integer.MIN_VALUE;
                default: return random.nextInt(Math.max(1, most));
            }
        }

        int who() { return odd(random.nextInt(8) == 0 ? 7 : model.kinds.size()); }
        int which() { return odd(random.nextInt(8) == 0 ? 13 : model.favours.size()); }

        void call() {
            int a = who();
            int b = who();
            int f = which();
            int w = odd(100);
            int r = random.nextInt(3) == 0 ? -1 : which();
            switch (random.nextInt(40)) {
                case 0: check("letter(" + w + ")", real.letter(w), model.letter(w)); break;
                case 1: if (random.nextInt(6) == 0) check("blank()", real.blank(), model.blank()); break;
                case 2: check("fault()", real.fault(), model.fault()); break;
                case 3: if (random.nextInt(25) == 0) writeLaw(); break;
                case 4: case 5: check("between(" + a + ", " + b + ")", real.between(a, b), model.between(a, b)); break;
                case 6: if (random.nextInt(5) == 0) { int k = odd(5); check("person(" + k + ")", real.person(k), model.person(k)); } break;
                case 7: case 8: { int k = odd(6); check("about(" + a + ", " + k + ")", real.about(a, k), model.about(a, k)); break; }
                case 9: { int k = odd(5); check("as(" + a + ", " + k + ")", real.as(a, k), model.as(a, k)); break; }
                case 10: check("may(" + a + ", " + b + ", " + w + ", " + r + ")", real.may(a, b, w, r), model.may(a, b, w, r)); break;
                case 11: case 12: check("favour(" + a + ", " + b + ", " + w + ", " + r + ")", real.favour(a, b, w, r), model.favour(a, b, w, r)); break;
                case 13: case 14: case 15: case 16: lawfulGuess(); break;
                case 17: case 18: { int k = odd(8); check("deed(" + f + ", " + k + ")", real.deed(f, k), model.deed(f, k)); break; }
                case 19: case 20: if (random.nextInt(3) == 0) check("week()", real.week(), model.week()); break;
                case 21: case 22: { int k = odd(2); check("way(" + f + ", " + a + ", " + k + ")", real.way(f, a, k), model.way(f, a, k)); break; }
                case 23: check("reach(" + f + ")", real.reach(f), model.reach(f)); break;
                case 24: case 25: check("bars(" + f + ", " + a + ")", real.bars(f, a), model.bars(f, a)); break;
                case 26: case 27: check("meeting(" + f + ", " + a + ")", real.meeting(f, a), model.meeting(f, a)); break;
                case 28: { int k = 1 + odd(7); check("rings(" + a + ", " + k + ")", real.rings(a, k), model.rings(a, k)); break; }
                case 29: case 30: { int k = random.nextInt(3) != 0 ? -1 : a; check("thanks(" + k + ")", real.thanks(k), model.thanks(k)); break; }
                case 31: if (random.nextInt(4) == 0) check("forget()", real.forget(), model.forget()); break;
                case 32: check("fits()", real.fits(), model.fits()); break;
                case 33: case 34: { int k = odd(model.diary.size()); check("sure(" + k + ")", real.sure(k), model.sure(k)); break; }
                case 35: { int n = odd(61); int s = random.nextInt(); int k = odd(4); check("weeks(" + n + ", " + s + ", " + k + ")", real.weeks(n, s, k), model.weeks(n, s, k)); break; }
                case 36: { int n = 1 + random.nextInt(60); int s = random.nextInt() & 0x7fffffff; for (int k = 0; k < 4; k++) check("weeks(" + n + ", " + s + ", " + k + ")", real.weeks(n, s, k), model.weeks(n, s, k)); break; }
                case 37: if (random.nextBoolean()) check("image()", real.image(), model.image()); else if (random.nextInt(3) == 0) check("restore()", real.restore(), model.restore()); break;
                case 38: { int k = odd(11); check("count(" + k + ")", real.count(k), model.count(k)); break; }
                default: if (random.nextInt(4) == 0) check("digest()", real.digest(), model.digest());
            }
        }

        /** Mostly lawful favours, so that chains grow. */
        void lawfulGuess() {
            int n = model.kinds.size();
            if (n < 2) {
                return;
            }
            int r = -1;
            int a = random.nextInt(n);
            int w = 1 + random.nextInt(99);
            if (model.favours.size() > 0 && random.nextInt(5) != 0) {
                r = random.nextInt(model.favours.size());
                int[] old = model.favours.get(r);
                a = old[1];
                w = Math.max(1, Math.min(99, old[2] - 2 + random.nextInt(5)));
            }
            int b = random.nextInt(n);
            String call = "(" + a + ", " + b + ", " + w + ", " + r + ")";
            check("may" + call, real.may(a, b, w, r), model.may(a, b, w, r));
            check("favour" + call, real.favour(a, b, w, r), model.favour(a, b, w, r));
        }
    }

    /** The document, said as plainly as can be. */
    private static final class Model {
        static final int NONE = -1, UNKNOWN = -101, OUTSIDE = -102, STATE = -103, FULL = -104;
        static final String PAIR = "[0-5][0-5]";
        static final Pattern SHAPE = Pattern.compile(
            "(-|" + PAIR + "(," + PAIR + "){0,4});" + PAIR + "(," + PAIR + "){0,11};[1-9]");

        String page = "";
        Set<String> kin = new HashSet<>();
        Set<String> met = new HashSet<>();
        int term = 0;
        int readings = 0;
        int week = 0;
        List<Integer> kinds = new ArrayList<>();
        /** by, for, worth, week, repays */
        List<int[]> favours = new ArrayList<>();
        List<Integer> diary = new ArrayList<>();
        List<int[]> keptFavours = null;
        List<Integer> keptDiary = null;
        int keptWeek;

        int letter(int code) {
            if (code < 1 || code > 126) return OUTSIDE;
            if (page.length() == 54) return FULL;
            page += (char) code;
            return page.length();
        }

        int blank() {
            int had = page.length();
            page = "";
            return had;
        }

        static boolean couldBegin(String text) {
            Matcher matcher = SHAPE.matcher(text);
            if (!matcher.matches() && !matcher.hitEnd()) return false;
            for (String part : text.split(";")) {
                Set<String> had = new HashSet<>();
                for (String pair : part.split(",")) {
                    if (pair.length() == 2 && (pair.charAt(0) == pair.charAt(1) || !had.add(sorted(pair)))) return false;
                }
            }
            return true;
        }

        static String sorted(String pair) {
            return pair.charAt(0) < pair.charAt(1) ? pair : "" + pair.charAt(1) + pair.charAt(0);
        }

        int fault() {
            for (int n = 1; n <= page.length(); n++) {
                if (!couldBegin(page.substring(0, n))) return n - 1;
            }
            return page.length();
        }

        int law() {
            if (!SHAPE.matcher(page).matches() || !couldBegin(page)) return STATE;
            String[] parts = page.split(";");
            kin = setOf(parts[0]);
            met = setOf(parts[1]);
            term = Integer.parseInt(parts[2]);
            readings++;
            week = 0;
            kinds.clear();
            favours.clear();
            diary.clear();
            page = "";
            keptFavours = null;
            return met.size();
        }

        static Set<String> setOf(String part) {
            Set<String> set = new HashSet<>();
            for (String pair : part.split(",")) {
                if (!pair.equals("-")) set.add(sorted(pair));
            }
            return set;
        }

        boolean is(int person) { return person >= 0 && person < kinds.size(); }
        boolean isFavour(int favour) { return favour >= 0 && favour < favours.size(); }
        boolean isKin(int a, int b) { return kin.contains(sorted("" + a + b)); }
        boolean sails(int a) { return kinds.get(a) == 3 || kinds.get(a) == 4; }
        boolean know(int a, int b) { return isKin(a, b) || met.contains(sorted("" + a + b)) || sails(a) || sails(b); }
        int termOf(int a) { return kinds.get(a) == 4 ? term + term : term; }

        int between(int a, int b) {
            if (!is(a) || !is(b) || a == b) return UNKNOWN;
            return isKin(a, b) ? 3 : know(a, b) ? 2 : 0;
        }

        int person(int kind) {
            if (kind < 0 || kind > 4) return OUTSIDE;
            if (readings == 0) return STATE;
            if (kinds.size() == 6) return FULL;
            keptFavours = null;
            kinds.add(kind);
            return kinds.size() - 1;
        }

        int repayer(List<int[]> all, int favour) {
            for (int i = 0; i < all.size(); i++) {
                if (all.get(i)[4] == favour) return i;
            }
            return NONE;
        }

        int about(int person, int what) {
            if (!is(person)) return UNKNOWN;
            if (what < 0 || what > 5) return OUTSIDE;
            int[] tells = {kinds.get(person), 0, 0, 0, 0, termOf(person)};
            for (int i = 0; i < favours.size(); i++) {
                int[] f = favours.get(i);
                if (f[0] == person) tells[1]++;
                if (f[1] == person) {
                    tells[2]++;
                    if (repayer(favours, i) == NONE) {
                        tells[3]++;
                        if (week > f[3] + termOf(person)) tells[4]++;
                    }
                }
            }
            return tells[what];
        }

        int as(int person, int kind) {
            if (!is(person)) return UNKNOWN;
            if (kind < 0 || kind > 4) return OUTSIDE;
            int own = kinds.get(person);
            return kind == 0 || own == kind || own == 4 && kind == 3 ? person : NONE;
        }

        boolean lawful(List<int[]> all, int week, int a, int b, int worth, int repays) {
            if (kinds.get(a) == 1 || !know(a, b)) return false;
            if (repays == NONE) return true;
            int[] old = all.get(repays);
            if (old[1] != a || repayer(all, repays) != NONE) return false;
            if (old[0] == b || isKin(old[0], b)) return false;
            if (worth < old[2] - (kinds.get(a) == 2 ? 1 : 0)) return false;
            return week - old[3] <= termOf(a);
        }

        int may(int a, int b, int worth, int repays) {
            if (!is(a) || !is(b) || a == b || repays != NONE && !isFavour(repays)) return UNKNOWN;
            if (worth < 1 || worth > 99) return OUTSIDE;
            return lawful(favours, week, a, b, worth, repays) ? 1 : 0;
        }

        int favour(int a, int b, int worth, int repays) {
            int may = may(a, b, worth, repays);
            if (may < 0) return may;
            if (may == 0) return STATE;
            if (favours.size() == 12) return FULL;
            favours.add(new int[] {a, b, worth, week, repays});
            return favours.size() - 1;
        }

        List<Integer> chain(List<int[]> all, int favour) {
            List<Integer> chain = new ArrayList<>();
            for (int at = favour; at != NONE; at = all.get(at)[4]) chain.add(0, at);
            for (int at = repayer(all, favour); at != NONE; at = repayer(all, at)) chain.add(at);
            return chain;
        }

        boolean home(List<int[]> all, int favour) {
            List<Integer> chain = chain(all, favour);
            for (int i = 1; i < chain.size(); i++) {
                if (all.get(chain.get(i))[1] == all.get(chain.get(0))[0]) return true;
            }
            return false;
        }

        int homes(List<int[]> all) {
            int n = 0;
            for (int i = 0; i < all.size(); i++) {
                if (all.get(i)[4] == NONE && home(all, i)) n++;
            }
            return n;
        }

        int open(List<int[]> all) {
            int n = 0;
            for (int i = 0; i < all.size(); i++) {
                if (repayer(all, i) == NONE) n++;
            }
            return n;
        }

        int deed(int favour, int what) {
            if (!isFavour(favour)) return UNKNOWN;
            if (what < 0 || what > 7) return OUTSIDE;
            if (what < 5) return favours.get(favour)[what];
            if (what == 5) return repayer(favours, favour);
            if (what == 6) return chain(favours, favour).indexOf(favour);
            return home(favours, favour) ? 1 : 0;
        }

        int week() {
            return readings == 0 ? STATE : ++week;
        }

        /** Whether who did one, he for whom it was, and for whom the next one is can follow so. */
        boolean follows(int doer, int holder, int whom) {
            return holder != whom && kinds.get(holder) != 1 && know(holder, whom)
                && (doer == NONE || doer != whom && !isKin(doer, whom));
        }

        /** Of all rows of so many favours that end at somebody the least first one. */
        int leastFirst(int doer, int holder, int favours, int person) {
            for (int whom = 0; whom < kinds.size(); whom++) {
                if (follows(doer, holder, whom) && ends(holder, whom, favours - 1, person)) return whom;
            }
            return NONE;
        }

        boolean ends(int doer, int holder, int favours, int person) {
            if (favours == 0) return holder == person;
            for (int whom = 0; whom < kinds.size(); whom++) {
                if (follows(doer, holder, whom) && ends(holder, whom, favours - 1, person)) return true;
            }
            return false;
        }

        int length(int favour, int person) {
            int[] f = favours.get(favour);
            for (int n = 1; n <= 8; n++) {
                if (leastFirst(f[0], f[1], n, person) != NONE) return n;
            }
            return NONE;
        }

        int refused(int favour, int person) {
            if (!isFavour(favour) || !is(person)) return UNKNOWN;
            return repayer(favours, favour) == NONE ? 0 : STATE;
        }

        int way(int favour, int person, int what) {
            int refused = refused(favour, person);
            if (refused == UNKNOWN) return refused;
            if (what < 0 || what > 1) return OUTSIDE;
            if (refused != 0) return refused;
            int n = length(favour, person);
            if (n == NONE || what == 0) return n;
            return leastFirst(favours.get(favour)[0], favours.get(favour)[1], n, person);
        }

        int reach(int favour) {
            if (!isFavour(favour)) return UNKNOWN;
            if (repayer(favours, favour) != NONE) return STATE;
            int n = 0;
            for (int who = 0; who < kinds.size(); who++) {
                if (length(favour, who) != NONE) n++;
            }
            return n;
        }

        int bars(int favour, int person) {
            int refused = refused(favour, person);
            if (refused != 0) return refused;
            if (length(favour, person) == NONE) return NONE;
            for (int who = 0; who < kinds.size(); who++) {
                if (who == person || who == favours.get(favour)[1]) continue;
                int kind = kinds.set(who, 1);
                boolean bars = length(favour, person) == NONE;
                kinds.set(who, kind);
                if (bars) return who;
            }
            return NONE;
        }

        int meeting(int favour, int person) {
            int refused = refused(favour, person);
            if (refused != 0) return refused;
            int now = length(favour, person);
            int best = NONE;
            int shortest = now == NONE ? 9 : now;
            for (int code = 0; code < 36; code++) {
                int a = code / 6;
                int b = code % 6;
                if (a >= b || !is(b) || know(a, b)) continue;
                met.add("" + a + b);
                int n = length(favour, person);
                met.remove("" + a + b);
                if (n != NONE && n < shortest) {
                    shortest = n;
                    best = code;
                }
            }
            return best;
        }

        int ringsFrom(int doer, int holder, int favours, int home) {
            if (favours == 0) return holder == home ? 1 : 0;
            if (doer != NONE && holder == home) return 0;
            int n = 0;
            for (int whom = 0; whom < kinds.size(); whom++) {
                if (follows(doer, holder, whom)) n += ringsFrom(holder, whom, favours - 1, home);
            }
            return n;
        }

        int rings(int person, int length) {
            if (!is(person)) return UNKNOWN;
            if (length < 2 || length > 6) return OUTSIDE;
            return ringsFrom(NONE, person, length, person);
        }

        int thanks(int person) {
            if (person != NONE && !is(person)) return UNKNOWN;
            if (diary.size() == 7) return FULL;
            diary.add(person);
            return diary.size();
        }

        int forget() {
            int had = diary.size();
            diary.clear();
            return had;
        }

        /** All rows of people that the diary could be. */
        void rows(List<Integer> row, List<List<Integer>> all) {
            int n = row.size();
            if (n == diary.size()) {
                all.add(new ArrayList<>(row));
                return;
            }
            for (int who = 0; who < kinds.size(); who++) {
                if (diary.get(n) != NONE && diary.get(n) != who) continue;
                if (n > 0 && !follows(n > 1 ? row.get(n - 2) : NONE, row.get(n - 1), who)) continue;
                row.add(who);
                rows(row, all);
                row.remove(n);
            }
        }

        int fits() {
            List<List<Integer>> all = new ArrayList<>();
            rows(new ArrayList<>(), all);
            return all.size();
        }

        int sure(int place) {
            if (place < 0 || place >= diary.size()) return UNKNOWN;
            List<List<Integer>> all = new ArrayList<>();
            rows(new ArrayList<>(), all);
            Set<Integer> here = new HashSet<>();
            for (List<Integer> row : all) here.add(row.get(place));
            return here.size() == 1 ? here.iterator().next() : NONE;
        }

        long seed;

        int draw(int of) {
            seed = (seed * 1103515245L + 12345L) % 2147483648L;
            return (int) (seed / 65536L % of);
        }

        int weeks(int weeks, int first, int what) {
            if (weeks < 1 || weeks > 60 || first < 0 || what < 0 || what > 3) return OUTSIDE;
            if (readings == 0) return STATE;
            seed = first;
            List<int[]> all = new ArrayList<>(favours);
            for (int then = week; then < week + weeks; then++) {
                for (int who = 0; who < kinds.size(); who++) {
                    int owed = NONE;
                    for (int i = all.size() - 1; i >= 0; i--) {
                        if (all.get(i)[1] == who && repayer(all, i) == NONE) owed = i;
                    }
                    if (owed == NONE || draw(2) == 1) continue;
                    int whom = draw(kinds.size());
                    int worth = all.get(owed)[2];
                    if (whom != who && all.size() < 12 && lawful(all, then, who, whom, worth, owed)) {
                        all.add(new int[] {who, whom, worth, then, owed});
                    }
                }
            }
            return what == 0 ? all.size() : what == 1 ? open(all) : what == 2 ? homes(all) : (int) seed;
        }

        int image() {
            if (readings == 0) return STATE;
            keptFavours = new ArrayList<>(favours);
            keptDiary = new ArrayList<>(diary);
            keptWeek = week;
            return week;
        }

        int restore() {
            if (keptFavours == null) return STATE;
            favours = new ArrayList<>(keptFavours);
            diary = new ArrayList<>(keptDiary);
            week = keptWeek;
            return week;
        }

        int count(int what) {
            int[] tells = {met.size(), kin.size(), term, kinds.size(), favours.size(), open(favours), week,
                homes(favours), diary.size(), page.length(), readings};
            return what < 0 || what >= tells.length ? OUTSIDE : tells[what];
        }

        long digest() {
            List<Integer> numbers = new ArrayList<>();
            for (int who = 0; who < kinds.size(); who++) {
                for (int what = 0; what < 6; what++) numbers.add(about(who, what));
                for (int other = 0; other < kinds.size(); other++) {
                    if (other != who) numbers.add(between(who, other));
                }
                numbers.add(rings(who, 2));
                numbers.add(rings(who, 3));
            }
            for (int favour = 0; favour < favours.size(); favour++) {
                for (int what = 0; what < 8; what++) numbers.add(deed(favour, what));
                if (repayer(favours, favour) == NONE) numbers.add(reach(favour));
            }
            numbers.add(fits());
            for (char sign : page.toCharArray()) numbers.add((int) sign);
            for (int what = 0; what <= 10; what++) numbers.add(count(what));
            long h = 743;
            for (int number : numbers) h = 31 * h + number;
            return h;
        }
    }
}
