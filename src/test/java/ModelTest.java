import java.util.ArrayList;
import java.util.Arrays;
import java.util.Comparator;
import java.util.List;
import java.util.Random;

/** Runs of some 500 calls from fixed seeds, each answer beside that of a slow model of the document's words. */
public final class ModelTest {
    private static final int RUNS = 600;
    private static final int CALLS = 500;
    private static final int[] WILD = {-1, 0, 1, 2, 3, 4, 6, 7, 19, 20, 99, 100, 101, 299, 300, 999_999, 1_000_000,
        1_000_001, Integer.MIN_VALUE, Integer.MIN_VALUE + 1, Integer.MAX_VALUE - 1, Integer.MAX_VALUE};
    private static final String[] TEXTS = {"P", "F", "W", "D", "T", ";", "0", "1", "2", "9", "P100;", "F1;", "W30;", "D90;",
        "T0;", "T1;", "T2;", "D3600;", "F12;", "W0;", "P7;", "X", "T01;", "T10", "P12345;"};

    /** A submission as the document tells it. */
    private static final class Sub {
        int number;
        int person;
        int puzzle;
        int second;
        int answer;
        boolean right;
    }

    /** Everything is worked out from the lists at every call, in the document's own order of words. */
    private static final class Model {
        final List<Integer> grades = new ArrayList<>();
        final List<Integer> starts = new ArrayList<>();
        final List<Sub> subs = new ArrayList<>();
        String text = "";
        int p = 100;
        int f = 0;
        int w = 0;
        int d = 3600;
        int t = 1;

        boolean isPuzzle(int n) {
            return n >= 0 && n < grades.size();
        }

        boolean isPerson(int n) {
            return n >= 0 && n < starts.size();
        }

        long puzzle(int grade) {
            if (grade < 1 || grade > 100 || grades.size() == 20) {
                return -1;
            }
            grades.add(grade);
            return grades.size() - 1;
        }

        long person() {
            if (starts.size() == 20) {
                return -1;
            }
            starts.add(null);
            return starts.size() - 1;
        }

        boolean unit(int u) {
            if (u < 0 || u > 255 || text.length() == 100) {
                return false;
            }
            text = text + (char) u;
            return true;
        }

        long rules() {
            String all = text;
            text = "";
            if (!all.matches("([PFWD][0-9]{1,4};|T0{0,3}[01];)*")) {
                return -1 - firstBad(all);
            }
            int told = 0;
            for (String one : all.split(";")) {
                if (!one.isEmpty()) {
                    told++;
                    set(one.charAt(0), Integer.parseInt(one.substring(1)));
                }
            }
            return told;
        }

        /** The longest beginning that could still go on as some text of rules, T of any value. */
        int firstBad(String all) {
            int good = 0;
            while (good < all.length() && all.substring(0, good + 1).matches("([PFWDT][0-9]{1,4};)*([PFWDT][0-9]{0,4})?")) {
                good++;
            }
            int at = 0;
            for (String one : all.substring(0, good).split(";")) {
                if (one.length() > 1 && one.charAt(0) == 'T' && Integer.parseInt(one.substring(1)) > 1) {
                    return at + one.length() - 1;
                }
                at += one.length() + 1;
            }
            return good;
        }

        void set(char letter, int value) {
            switch (letter) {
                case 'P' -> p = value;
                case 'F' -> f = value;
                case 'W' -> w = value;
                case 'D' -> d = value;
                default -> t = value;
            }
        }

        boolean start(int person, int second) {
            if (!isPerson(person) || second < 0 || second > 1_000_000) {
                return false;
            }
            if (subs.stream().anyMatch(s -> s.person == person && s.second < second)) {
                return false;
            }
            starts.set(person, second);
            return true;
        }

        long submit(int person, int puzzle, int second, int answer, boolean right) {
            if (!isPerson(person) || !isPuzzle(puzzle) || starts.get(person) == null || second < starts.get(person)
                    || second > 1_000_000 || answer < 0 || subs.size() == 300) {
                return -1;
            }
            Sub s = new Sub();
            s.number = subs.size();
            s.person = person;
            s.puzzle = puzzle;
            s.second = second;
            s.answer = answer;
            s.right = right;
            subs.add(s);
            return s.number;
        }

        boolean correct(int n, boolean right) {
            if (n < 0 || n >= subs.size() || subs.get(n).right == right) {
                return false;
            }
            subs.get(n).right = right;
            return true;
        }

        int fromStart(Sub s) {
            return s.second - starts.get(s.person);
        }

        boolean late(int n) {
            return n >= 0 && n < subs.size() && fromStart(subs.get(n)) > d;
        }

        boolean comesAhead(Sub a, Sub b) {
            return a.second < b.second || a.second == b.second && a.number < b.number;
        }

        /** The one that counts, or null. */
        Sub counting(int person, int puzzle) {
            Sub first = null;
            for (Sub s : subs) {
                if (s.person == person && s.puzzle == puzzle && s.right && (first == null || comesAhead(s, first))) {
                    first = s;
                }
            }
            return first == null || late(first.number) ? null : first;
        }

        long points(int person, int puzzle) {
            if (!isPerson(person) || !isPuzzle(puzzle)) {
                return -1;
            }
            Sub c = counting(person, puzzle);
            if (c == null) {
                return -1;
            }
            long sum = (long) grades.get(puzzle) * p;
            for (int full = 60; full <= fromStart(c); full += 60) {
                sum -= (long) grades.get(puzzle) * f;
            }
            for (Sub s : subs) {
                if (s.person == person && s.puzzle == puzzle && !s.right && comesAhead(s, c)) {
                    sum -= w;
                }
            }
            return sum < 0 ? 0 : sum;
        }

        long score(int person, int what) {
            if (!isPerson(person) || what < 0 || what > 3) {
                return -1;
            }
            if (what == 3) {
                return 1 + starts.size() - countNotAhead(person);
            }
            long sum = 0;
            for (int q = 0; q < grades.size(); q++) {
                Sub c = counting(person, q);
                if (c != null) {
                    sum += what == 0 ? points(person, q) : what == 1 ? fromStart(c) : 1;
                }
            }
            return sum;
        }

        long countNotAhead(int person) {
            long[] key = key(person);
            long notAhead = 0;
            for (int other = 0; other < starts.size(); other++) {
                if (Arrays.compare(key(other), key) >= 0) {
                    notAhead++;
                }
            }
            return notAhead;
        }

        /** Less is ahead, equal is alike. */
        long[] key(int person) {
            return new long[] {-score(person, 0), t == 1 ? score(person, 1) : 0};
        }

        long place(int k) {
            List<Integer> order = new ArrayList<>();
            List<long[]> keys = new ArrayList<>();
            for (int i = 0; i < starts.size(); i++) {
                order.add(i);
                keys.add(key(i));
            }
            order.sort((a, b) -> Arrays.compare(keys.get(a), keys.get(b)));
            return k < 0 || k >= order.size() ? -1 : order.get(k);
        }

        boolean shared(int a, int b) {
            return isPerson(a) && isPerson(b) && Arrays.equals(key(a), key(b));
        }

        long suspicious(int k, int what) {
            List<int[]> pairs = new ArrayList<>();
            for (Sub s : subs) {
                for (int b = s.person + 1; b < starts.size() && !s.right; b++) {
                    Sub o = firstAlike(s, b);
                    if (o != null && Math.abs(o.second - s.second) <= 60) {
                        pairs.add(new int[] {s.person, b, s.puzzle, Math.abs(o.second - s.second)});
                    }
                }
            }
            return k < 0 || k >= pairs.size() || what < 0 || what > 3 ? -1 : pairs.get(k)[what];
        }

        Sub firstAlike(Sub s, int b) {
            for (Sub o : subs) {
                if (o.person == b && !o.right && o.puzzle == s.puzzle && o.answer == s.answer) {
                    return o;
                }
            }
            return null;
        }

        long even(int sets, int puzzle) {
            if (sets < 1 || sets > 6 || !isPuzzle(puzzle)) {
                return -1;
            }
            List<Integer> order = new ArrayList<>();
            for (int i = 0; i < grades.size(); i++) {
                order.add(i);
            }
            order.sort(Comparator.comparing(q -> -grades.get(q)));
            List<int[]> rows = new ArrayList<>();
            for (int i = 0; i < sets; i++) {
                rows.add(new int[] {0, 0, i});
            }
            long set = -1;
            for (int q : order) {
                int[] row = rows.stream().min(Arrays::compare).get();
                row[0] += grades.get(q);
                row[1]++;
                set = q == puzzle ? row[2] : set;
            }
            return set;
        }

        long apart() {
            if (grades.isEmpty()) {
                return -1;
            }
            List<Integer> differences = List.of(0);
            for (int grade : grades) {
                List<Integer> next = new ArrayList<>();
                for (int difference : differences) {
                    next.add(difference + grade);
                    next.add(Math.abs(difference - grade));
                }
                differences = next.stream().distinct().toList();
            }
            return differences.stream().min(Comparator.naturalOrder()).get();
        }
    }

    private final Random random;
    private final ContestRows x = new ContestRows();
    private final Model model = new Model();
    private final int manySeconds;
    private final int manyPuzzles;
    private final int manyPersons;
    private String call = "";
    private int step = 0;

    private ModelTest(long seed) {
        random = new Random(seed);
        manySeconds = new int[] {3, 70, 400, 4000, 12_000, 1_000_001}[random.nextInt(6)];
        manyPuzzles = new int[] {1, 2, 5, 20}[random.nextInt(4)];
        manyPersons = new int[] {2, 3, 6, 20}[random.nextInt(4)];
    }

    /** Mostly below the bound, at times anything. */
    private int some(int bound) {
        return random.nextInt(60) == 0 ? WILD[random.nextInt(WILD.length)] : random.nextInt(bound);
    }

    private boolean same(String name, long got, long want, int... arguments) {
        if (got == want) {
            return true;
        }
        call = "call " + step + ": " + name + Arrays.toString(arguments) + " answered " + got + ", the model " + want;
        return false;
    }

    private static long asLong(boolean b) {
        return b ? 1 : 0;
    }

    private boolean fill() {
        int a = some(manyPersons);
        int b = some(manyPuzzles);
        int c = some(manySeconds);
        int e = some(3);
        boolean right = random.nextInt(3) == 0;
        if (random.nextInt(12) == 0 || model.starts.size() > a && a >= 0 && model.starts.get(a) == null) {
            int second = random.nextInt(3) == 0 ? c : some(1 + manySeconds / 10);
            return same("start", asLong(x.start(a, second)), asLong(model.start(a, second)), a, second);
        }
        return same("submit", x.submit(a, b, c, e, right), model.submit(a, b, c, e, right), a, b, c, e, (int) asLong(right));
    }

    private boolean tellRules() {
        if (random.nextInt(4) == 0) {
            return same("rules", x.rules(), model.rules());
        }
        String text = TEXTS[random.nextInt(TEXTS.length)];
        int u = random.nextInt(20) == 0 ? some(256) : text.charAt(0);
        boolean good = same("unit", asLong(x.unit(u)), asLong(model.unit(u)), u);
        for (int i = 1; i < text.length() && good; i++) {
            step++;
            good = same("unit", asLong(x.unit(text.charAt(i))), asLong(model.unit(text.charAt(i))), text.charAt(i));
        }
        return good;
    }

    private boolean ask() {
        int a = some(manyPersons);
        int b = some(manyPersons);
        int q = some(manyPuzzles);
        int n = some(Math.max(1, model.subs.size()));
        int what = some(4);
        int sets = some(7);
        boolean right = random.nextBoolean();
        switch (random.nextInt(9)) {
            case 0:
                return same("correct", asLong(x.correct(n, right)), asLong(model.correct(n, right)), n);
            case 1:
                return same("late", asLong(x.late(n)), asLong(model.late(n)), n);
            case 2:
                return same("score", x.score(a, what), model.score(a, what), a, what);
            case 3:
                return same("points", x.points(a, q), model.points(a, q), a, q);
            case 4:
                return same("place", x.place(a), model.place(a), a);
            case 5:
                return same("shared", asLong(x.shared(a, b)), asLong(model.shared(a, b)), a, b);
            case 6:
                int k = some(1 + random.nextInt(12));
                return same("suspicious", x.suspicious(k, what), model.suspicious(k, what), k, what);
            case 7:
                return same("even", x.even(sets, q), model.even(sets, q), sets, q);
            default:
                return same("apart", x.apart(), model.apart());
        }
    }

    private boolean next() {
        int kind = random.nextInt(20);
        if (model.starts.size() < manyPersons && kind < 4 || kind == 0 && random.nextInt(10) == 0) {
            return same("person", x.person(), model.person());
        }
        if (model.grades.size() < manyPuzzles && kind < 8 || kind == 1 && random.nextInt(10) == 0) {
            int grade = 1 + random.nextInt(random.nextBoolean() ? 100 : 6);
            grade = random.nextInt(20) == 0 ? some(102) : grade;
            return same("puzzle", x.puzzle(grade), model.puzzle(grade), grade);
        }
        if (kind == 2) {
            return tellRules();
        }
        return kind < 12 ? fill() : ask();
    }

    private boolean run() {
        for (step = 0; step < CALLS; step++) {
            if (!next()) {
                return false;
            }
        }
        return true;
    }

    public static void main(String[] args) {
        int wrong = 0;
        for (int seed = 0; seed < RUNS; seed++) {
            ModelTest test = new ModelTest(seed);
            if (!test.run()) {
                wrong++;
                System.out.println("seed " + seed + ", " + test.call);
            }
        }
        System.out.println(wrong == 0 ? "all runs are as the model's" : wrong + " runs are not as the model's");
        if (wrong != 0) {
            System.exit(1);
        }
    }
}
