import java.util.ArrayList;
import java.util.Arrays;
import java.util.List;
import java.util.function.Consumer;
import java.util.function.Function;

/**
 * Each sentence of the document that names a boundary case, in a test of its own: the last value that is taken
 * and the first that is not, on both sides; the empty and the full; a refused call, and that it did nothing.
 */
public final class EdgeTest {
    private static final int LOW = Integer.MIN_VALUE;
    private static final int HIGH = Integer.MAX_VALUE;
    private static final int MILLION = 1_000_000;
    private static final String LETTERS = "PFWDT";
    private static int wrong = 0;
    private static int sentences = 0;
    private static String sentence = "";

    // ---- How a sentence is tested

    private static void of(String where, String words, Runnable test) {
        sentence = where + ": " + words;
        sentences++;
        try {
            test.run();
        } catch (RuntimeException e) {
            fault("a call threw " + e);
        }
    }

    private static void fault(String what) {
        wrong++;
        System.out.println("[" + sentence + "] " + what);
    }

    private static void due(String call, long got, long want) {
        if (got != want) {
            fault(call + " answered " + got + ", due is " + want);
        }
    }

    private static void due(String call, boolean got, boolean want) {
        due(call, got ? 1L : 0L, want ? 1L : 0L);
    }

    private static int tell(ContestRows x, String text) {
        for (int i = 0; i < text.length(); i++) {
            due("unit " + (int) text.charAt(i), x.unit(text.charAt(i)), true);
        }
        return x.rules();
    }

    private static void told(String text, int want) {
        due("rules of \"" + text + "\"", tell(new ContestRows(), text), want);
    }

    /** Persons that all start at 0, and puzzles of these grades. */
    private static ContestRows contest(int persons, int... grades) {
        ContestRows x = new ContestRows();
        for (int grade : grades) {
            x.puzzle(grade);
        }
        for (int i = 0; i < persons; i++) {
            x.start(x.person(), 0);
        }
        return x;
    }

    private static ContestRows contest(int persons, String rules, int... grades) {
        ContestRows x = contest(persons, grades);
        tell(x, rules);
        return x;
    }

    private static int[] row(int many, int value) {
        int[] row = new int[many];
        Arrays.fill(row, value);
        return row;
    }

    /** A contest in which every call has something to tell; person 3 has no start, and a text is half told. */
    private static ContestRows busy() {
        ContestRows x = contest(3, "P50;F1;W3;D500;", 10, 20, 10);
        x.person();
        x.start(1, 20);
        x.submit(0, 0, 30, 7, false);
        x.submit(1, 0, 60, 7, false);
        x.submit(0, 0, 90, 8, true);
        x.submit(1, 0, 100, 8, true);
        x.submit(2, 1, 501, 9, true);
        x.submit(2, 0, 40, 7, false);
        x.submit(2, 2, 130, 1, true);
        x.unit('P');
        x.unit('9');
        return x;
    }

    private static long asLong(boolean b) {
        return b ? 1 : 0;
    }

    /** Adds what the askable calls answer now, for up to 5 persons, 4 puzzles and 9 submissions. */
    private static void askAll(ContestRows x, List<Long> answers) {
        for (int person = 0; person < 5; person++) {
            for (int what = 0; what < 4; what++) {
                answers.add(x.score(person, what));
                answers.add(x.points(person, what));
            }
            answers.add((long) x.place(person));
            answers.add(asLong(x.shared(person, (person + 1) % 4)));
        }
        for (int submission = 0; submission < 9; submission++) {
            answers.add(asLong(x.late(submission)));
        }
        for (int k = 0; k < 5; k++) {
            for (int what = 0; what < 4; what++) {
                answers.add((long) x.suspicious(k, what));
            }
        }
        for (int sets = 1; sets < 7; sets += 2) {
            for (int puzzle = 0; puzzle < 4; puzzle++) {
                answers.add((long) x.even(sets, puzzle));
            }
        }
        answers.add((long) x.apart());
    }

    /** What calls answer from now on, those that add among them. */
    private static List<Long> later(ContestRows x) {
        List<Long> answers = new ArrayList<>();
        askAll(x, answers);
        answers.add(asLong(x.unit(';')));
        answers.add((long) x.rules());
        answers.add((long) x.submit(3, 0, 35, 7, false));
        answers.add((long) x.submit(0, 1, 19, 7, true));
        answers.add((long) x.submit(1, 1, 19, 7, true));
        answers.add((long) x.submit(1, 1, 20, 7, true));
        answers.add((long) x.puzzle(5));
        answers.add((long) x.person());
        answers.add(asLong(x.start(3, 33)));
        answers.add((long) x.submit(3, 0, 35, 7, false));
        askAll(x, answers);
        return answers;
    }

    /** All that comes behind the call is as if the call had not been. */
    private static void doesNothing(String call, Consumer<ContestRows> made) {
        ContestRows with = busy();
        made.accept(with);
        if (!later(with).equals(later(busy()))) {
            fault(call + " changed what later calls answer");
        }
    }

    private static void refused(String call, Function<ContestRows, Integer> made) {
        due(call, made.apply(busy()), -1);
        doesNothing(call, made::apply);
    }

    private static void denied(String call, Function<ContestRows, Boolean> made) {
        due(call, made.apply(busy()), false);
        doesNothing(call, made::apply);
    }

    /** Points of a right submission alone, S seconds from the start, for a puzzle of this grade. */
    private static void worth(String rules, int grade, int seconds, long want) {
        ContestRows x = contest(1, rules, grade);
        x.submit(0, 0, seconds, 1, true);
        due("points with " + rules + " at " + seconds, x.points(0, 0), want);
        due("score with " + rules + " at " + seconds, x.score(0, 0), Math.max(0, want));
    }

    // ---- Terms

    private static void manyPuzzles() {
        ContestRows x = new ContestRows();
        for (int i = 0; i < 20; i++) {
            due("puzzle of grade 0 between", x.puzzle(0), -1);
            due("puzzle of grade 101 between", x.puzzle(101), -1);
            due("puzzle " + i, x.puzzle(1 + i * 5), i);
        }
        due("puzzle 20", x.puzzle(1), -1);
        due("puzzle 21", x.puzzle(100), -1);
        x.person();
        x.start(0, 0);
        due("submit for puzzle 19", x.submit(0, 19, 0, 0, true), 0);
        due("the grade of puzzle 19", x.points(0, 19), 9600);
        due("submit for puzzle 20", x.submit(0, 20, 0, 0, true), -1);
    }

    private static void manyPersons() {
        ContestRows x = contest(0, 1);
        for (int i = 0; i < 20; i++) {
            due("place " + i + " before person " + i, x.place(i), -1);
            due("person " + i, x.person(), i);
            due("place " + i, x.place(i), i);
        }
        due("person 20", x.person(), -1);
        due("person 21", x.person(), -1);
        due("place 20", x.place(20), -1);
        due("start of person 19", x.start(19, 5), true);
        due("start of person 20", x.start(20, 5), false);
        due("submit of person 19", x.submit(19, 0, 5, 0, true), 0);
        due("place 0", x.place(0), 19);
    }

    private static void noStartYet() {
        ContestRows x = contest(1, 1);
        x.person();
        for (int what = 0; what < 3; what++) {
            due("score " + what + " without a start", x.score(1, what), 0);
        }
        due("rank without a start", x.score(1, 3), 1);
        due("submit without a start", x.submit(1, 0, 10, 0, true), -1);
        due("submit at 0 without a start", x.submit(1, 0, 0, 0, true), -1);
        due("start at 0", x.start(1, 0), true);
        due("submit at 0 behind a start at 0", x.submit(1, 0, 0, 0, true), 0);
    }

    private static ContestRows fullOfSubmissions() {
        ContestRows x = contest(2, "W1;", 10, 20);
        for (int i = 0; i < 300; i++) {
            due("submit " + i, x.submit(i % 2, 0, 1 + i, 0, i == 299), i);
        }
        return x;
    }

    private static void manySubmissions() {
        ContestRows x = fullOfSubmissions();
        due("points by submission 299", x.points(1, 0), 1000 - 149);
        due("submit 300", x.submit(0, 1, 0, 0, true), -1);
        due("submit 301", x.submit(1, 0, 0, 0, true), -1);
        due("no points by submission 300", x.points(0, 1), -1);
        due("points by submission 299 still", x.points(1, 0), 1000 - 149);
        due("no submission 300 to correct", x.correct(300, true), false);
        due("submission 299 can be corrected", x.correct(299, false), true);
        due("no points", x.points(1, 0), -1);
    }

    private static void wholeAnswers() {
        int[][] unlike = {{0, 256}, {0, 65_536}, {0, HIGH}, {HIGH, HIGH - 1}, {1, 0}, {1 << 24, 0}};
        for (int[] two : unlike) {
            ContestRows x = contest(2, 1);
            x.submit(0, 0, 0, two[0], false);
            x.submit(1, 0, 0, two[1], false);
            due("answers " + two[0] + " and " + two[1], x.suspicious(0, 0), -1);
            x.submit(1, 0, 0, two[0], false);
            due("answers " + two[0] + " and the same", x.suspicious(0, 0), 0);
        }
    }

    private static void rulesAtFirst() {
        worth("", 1, 0, 100);
        worth("", 100, 0, 10_000);
        worth("", 1, 3599, 100);
        worth("", 1, 3600, 100);
        worth("", 1, 3601, -1);
        ContestRows x = contest(2, 1);
        x.submit(0, 0, 1, 0, false);
        x.submit(0, 0, 2, 0, true);
        x.submit(1, 0, 1, 0, true);
        due("W 0", x.points(0, 0), 100);
        due("T 1", x.shared(0, 1), false);
    }

    private static void firstRightOne() {
        ContestRows x = contest(1, "W1;", 1);
        due("right at 10", x.submit(0, 0, 10, 0, true), 0);
        due("wrong at 10", x.submit(0, 0, 10, 0, false), 1);
        due("right at 10", x.submit(0, 0, 10, 0, true), 2);
        due("of alike seconds the first by numbers", x.points(0, 0), 100);
        due("it counts once", x.score(0, 2), 1);
        due("its time counts once", x.score(0, 1), 10);
        x.submit(0, 0, 9, 0, true);
        due("one second earlier, told later", x.score(0, 1), 9);
        x.submit(0, 0, 11, 0, true);
        due("one second later", x.score(0, 1), 9);
        x.correct(3, false);
        x.correct(0, false);
        due("the next by numbers, behind three wrong ones", x.points(0, 0), 97);
        due("its time", x.score(0, 1), 10);
    }

    private static void firstRightOneLate() {
        ContestRows x = contest(1, "D100;", 1);
        x.submit(0, 0, 101, 0, true);
        x.submit(0, 0, 102, 0, true);
        due("points when the first right one is late", x.points(0, 0), -1);
        due("how many count", x.score(0, 2), 0);
        due("score", x.score(0, 0), 0);
        due("time", x.score(0, 1), 0);
        x.submit(0, 0, 100, 0, true);
        due("points at D", x.points(0, 0), 100);
        due("time at D", x.score(0, 1), 100);
    }

    private static void secondsFromStart() {
        ContestRows x = contest(2, "F1;D60;", 1);
        x.start(0, MILLION);
        x.submit(0, 0, MILLION, 0, true);
        due("S 0 at the last second", x.score(0, 1), 0);
        due("it counts", x.score(0, 2), 1);
        due("start 60 ahead", x.start(0, MILLION - 60), true);
        due("S 60", x.score(0, 1), 60);
        due("a full minute", x.points(0, 0), 99);
        due("start 61 ahead", x.start(0, MILLION - 61), true);
        due("S 61 is late", x.points(0, 0), -1);
        due("start at 0", x.start(0, 0), true);
        due("S of a million is late", x.late(0), true);
        due("the other's start is their own", x.submit(1, 0, 0, 0, true), 1);
        due("S 0 at second 0", x.score(1, 1), 0);
    }

    private static void lateAboveD() {
        int[] limits = {0, 1, 59, 60, 3600, 9999};
        for (int d : limits) {
            ContestRows x = contest(1, "D" + d + ";", 1);
            x.start(0, 7);
            x.submit(0, 0, 7, 0, false);
            x.submit(0, 0, 7 + d, 0, false);
            x.submit(0, 0, 7 + d + 1, 0, true);
            due("late at S 0 with D " + d, x.late(0), false);
            due("late at D " + d, x.late(1), false);
            due("late above D " + d, x.late(2), true);
            due("points above D " + d, x.points(0, 0), -1);
            x.correct(1, true);
            due("points at D " + d, x.points(0, 0), 100);
        }
    }

    private static void fullMinutes() {
        String rules = "F2;D9999;";
        worth(rules, 3, 0, 300);
        worth(rules, 3, 1, 300);
        worth(rules, 3, 59, 300);
        worth(rules, 3, 60, 294);
        worth(rules, 3, 119, 294);
        worth(rules, 3, 120, 288);
        worth("P9999;F9;D9999;", 100, 9959, 999_900 - 900 * 165);
        worth("P9999;F9;D9999;", 100, 9960, 999_900 - 900 * 166);
        worth("P9999;F9;D9999;", 100, 9999, 999_900 - 900 * 166);
    }

    private static void wrongOnesAhead() {
        ContestRows x = contest(2, "W1;", 1, 1);
        x.submit(0, 0, 51, 0, false);
        x.submit(0, 0, 50, 0, false);
        x.submit(0, 0, 50, 0, true);
        due("same second, lesser number", x.points(0, 0), 99);
        x.submit(0, 0, 50, 0, false);
        due("same second, greater number", x.points(0, 0), 99);
        x.submit(0, 0, 49, 0, false);
        due("earlier, greater number", x.points(0, 0), 98);
        x.submit(0, 1, 49, 0, false);
        due("of another puzzle", x.points(0, 0), 98);
        x.submit(1, 0, 49, 0, false);
        due("of another person", x.points(0, 0), 98);
        x.submit(0, 0, 51, 0, true);
        due("a second right one", x.points(0, 0), 98);
        x.correct(2, false);
        due("all five wrong ones ahead", x.points(0, 0), 95);
        x.submit(0, 1, 49, 0, true);
        due("behind its one wrong one of the same second", x.points(0, 1), 99);
    }

    private static void noWrongOnesAhead() {
        ContestRows x = contest(1, "W9999;", 1);
        x.submit(0, 0, 0, 0, true);
        due("no wrong ones", x.points(0, 0), 100);
    }

    private static void atLeastZero() {
        worth("P2;F1;", 5, 119, 5);
        worth("P2;F1;", 5, 120, 0);
        worth("P2;F1;", 5, 180, 0);
        worth("P0;", 100, 0, 0);
        worth("P9999;F9999;D9999;", 100, 9999, 0);
        ContestRows x = contest(1, "W33;", 1);
        for (int i = 0; i < 4; i++) {
            x.submit(0, 0, i, 0, false);
        }
        x.submit(0, 0, 3, 0, true);
        due("100 less 4 * 33", x.points(0, 0), 0);
        due("the score is not below 0", x.score(0, 0), 0);
        due("0 counts", x.score(0, 2), 1);
        due("and its time", x.score(0, 1), 3);
        x.correct(3, true);
        due("100 less 3 * 33", x.points(0, 0), 1);
        tell(x, "W34;");
        due("100 less 3 * 34", x.points(0, 0), 0);
        tell(x, "P102;");
        due("102 less 3 * 34", x.points(0, 0), 0);
        tell(x, "P103;");
        due("103 less 3 * 34", x.points(0, 0), 1);
    }

    /** None takes from another puzzle's points, though what falls from it is far more than it has. */
    private static void lostMoreThanAll() {
        ContestRows x = contest(1, "P9999;W9999;D9999;", 100, 100);
        for (int i = 0; i < 298; i++) {
            x.submit(0, 0, 0, 0, false);
        }
        x.submit(0, 0, 60, 0, true);
        x.submit(0, 1, 60, 0, true);
        due("points behind 298 wrong ones", x.points(0, 0), 0);
        due("score", x.score(0, 0), 999_900);
        tell(x, "F9999;");
        due("points behind a minute more", x.points(0, 0), 0);
        due("100 * 9999 less 100 * 9999", x.points(0, 1), 0);
        x.correct(99, true);
        tell(x, "F0;W9998;");
        due("points behind 99 wrong ones", x.points(0, 0), 999_900 - 99 * 9998);
    }

    private static void greatestSums() {
        ContestRows x = contest(1, "P9999;D9999;", row(20, 100));
        due("score without submissions", x.score(0, 0), 0);
        due("time without submissions", x.score(0, 1), 0);
        due("count without submissions", x.score(0, 2), 0);
        for (int puzzle = 0; puzzle < 20; puzzle++) {
            x.submit(0, puzzle, 9999, 0, true);
            due("count", x.score(0, 2), puzzle + 1);
        }
        due("score of all", x.score(0, 0), 20L * 100 * 9999);
        due("time of all", x.score(0, 1), 20L * 9999);
    }

    private static void byFallingScores() {
        ContestRows x = contest(3, "P1;", 1, 2, 3);
        x.submit(0, 1, 0, 0, true);
        x.submit(1, 2, 3600, 0, true);
        x.submit(2, 0, 0, 0, true);
        int[] order = {1, 0, 2};
        for (int k = 0; k < 3; k++) {
            due("place " + k, x.place(k), order[k]);
            due("rank", x.score(order[k], 3), k + 1);
        }
    }

    private static void byRisingTimes() {
        ContestRows x = contest(3, "T1;", 1);
        x.submit(0, 0, 11, 0, true);
        x.submit(1, 0, 10, 0, true);
        x.submit(2, 0, 10, 0, true);
        int[] order = {1, 2, 0};
        for (int k = 0; k < 3; k++) {
            due("place " + k, x.place(k), order[k]);
        }
        due("one second apart", x.shared(0, 1), false);
        due("no second apart", x.shared(1, 2), true);
        due("rank of 0", x.score(0, 3), 3);
    }

    private static void timesAlike() {
        ContestRows x = contest(3, "T0;", 1, 1);
        x.submit(0, 0, 3600, 0, true);
        x.submit(1, 0, 0, 0, true);
        for (int k = 0; k < 3; k++) {
            due("place " + k + " with T 0", x.place(k), k);
        }
        due("other times", x.shared(0, 1), true);
        due("rank", x.score(0, 3), 1);
        due("rank", x.score(1, 3), 1);
        due("other scores are not alike", x.shared(0, 2), false);
        due("rank behind two", x.score(2, 3), 3);
        tell(x, "T1;");
        due("place 0 with T 1", x.place(0), 1);
        due("other times with T 1", x.shared(0, 1), false);
    }

    private static void ranks() {
        ContestRows x = contest(20, 1, 1);
        for (int person = 0; person < 20; person++) {
            due("all share", x.score(person, 3), 1);
            due("by numbers", x.place(person), person);
        }
        x.submit(19, 0, 5, 0, true);
        x.submit(18, 0, 5, 0, true);
        due("two share the first", x.score(18, 3), 1);
        due("two share the first", x.score(19, 3), 1);
        for (int person = 0; person < 18; person++) {
            due("the third is shared by 18", x.score(person, 3), 3);
        }
        x.submit(0, 0, 6, 0, true);
        due("alone third", x.score(0, 3), 3);
        due("all others fourth", x.score(17, 3), 4);
    }

    // ---- Terms: suspicious pairs

    private static void pair(ContestRows x, int k, int... due) {
        for (int what = 0; what < 4; what++) {
            due("suspicious " + k + ", " + what, x.suspicious(k, what), due[what]);
        }
    }

    private static void noPair(ContestRows x, int k) {
        pair(x, k, -1, -1, -1, -1);
    }

    private static void lesserPersonIsA() {
        ContestRows x = contest(2, 1);
        x.submit(1, 0, 10, 3, false);
        noPair(x, 0);
        x.submit(1, 0, 10, 3, false);
        noPair(x, 0);
        x.submit(0, 0, 15, 3, false);
        pair(x, 0, 0, 1, 0, 5);
        noPair(x, 1);
    }

    private static void sixtySeconds() {
        int[] seconds = {39, 40, 41, 99, 100, 101, 159, 160, 161};
        int[] apart = {-1, 60, 59, 1, 0, 1, 59, 60, -1};
        for (int i = 0; i < seconds.length; i++) {
            ContestRows x = contest(2, 1);
            x.submit(0, 0, 100, 3, false);
            x.submit(1, 0, seconds[i], 3, false);
            due("100 and " + seconds[i], x.suspicious(0, 3), apart[i]);
            due("A of it", x.suspicious(0, 0), apart[i] < 0 ? -1 : 0);
        }
        ContestRows y = contest(2, 1);
        y.submit(0, 0, 0, 3, false);
        y.submit(1, 0, MILLION, 3, false);
        noPair(y, 0);
    }

    private static void notFromStarts() {
        ContestRows x = contest(2, 1);
        x.start(1, 500);
        x.submit(0, 0, 10, 3, false);
        x.submit(1, 0, 510, 3, false);
        noPair(x, 0);
        ContestRows y = contest(2, 1);
        y.start(1, 500);
        y.submit(0, 0, 510, 3, false);
        y.submit(1, 0, 510, 3, false);
        pair(y, 0, 0, 1, 0, 0);
    }

    private static void firstOfB() {
        ContestRows x = contest(2, 1);
        x.submit(0, 0, 100, 3, false);
        x.submit(1, 0, 130, 3, false);
        x.submit(1, 0, 100, 3, false);
        pair(x, 0, 0, 1, 0, 30);
        noPair(x, 1);
        ContestRows y = contest(2, 1);
        y.submit(0, 0, 100, 3, false);
        y.submit(1, 0, 161, 3, false);
        y.submit(1, 0, 100, 3, false);
        noPair(y, 0);
        y.correct(1, true);
        pair(y, 0, 0, 1, 0, 0);
        noPair(y, 1);
    }

    private static void samePuzzleAndAnswer() {
        ContestRows x = contest(2, 1, 1);
        x.submit(0, 0, 100, 3, false);
        x.submit(1, 1, 100, 3, false);
        noPair(x, 0);
        x.submit(1, 0, 100, 4, false);
        noPair(x, 0);
        x.submit(1, 0, 100, 2, false);
        noPair(x, 0);
        x.submit(0, 1, 100, 4, false);
        noPair(x, 0);
        x.submit(1, 0, 101, 3, false);
        pair(x, 0, 0, 1, 0, 1);
        noPair(x, 1);
    }

    private static void notRightOnes() {
        ContestRows x = contest(2, 1);
        x.submit(0, 0, 100, 3, true);
        x.submit(1, 0, 100, 3, true);
        noPair(x, 0);
        x.correct(0, false);
        noPair(x, 0);
        x.correct(0, true);
        x.correct(1, false);
        noPair(x, 0);
        x.correct(0, false);
        pair(x, 0, 0, 1, 0, 0);
    }

    private static void listed() {
        ContestRows x = contest(3, 1, 1);
        x.submit(2, 1, 5, 3, false);
        x.submit(1, 1, 7, 3, false);
        x.submit(0, 1, 9, 3, false);
        x.submit(2, 0, 0, 3, false);
        x.submit(0, 0, 1, 3, false);
        x.submit(0, 1, 0, 3, false);
        pair(x, 0, 1, 2, 1, 2);
        pair(x, 1, 0, 1, 1, 2);
        pair(x, 2, 0, 2, 1, 4);
        pair(x, 3, 0, 2, 0, 1);
        pair(x, 4, 0, 1, 1, 7);
        pair(x, 5, 0, 2, 1, 5);
        noPair(x, 6);
    }

    /** 150 submissions of each of two: every one of A's has a pair. */
    private static void fullOfPairs() {
        ContestRows x = contest(2, 1);
        for (int i = 0; i < 300; i++) {
            x.submit(i % 2, 0, 10, 3, false);
        }
        pair(x, 0, 0, 1, 0, 0);
        pair(x, 149, 0, 1, 0, 0);
        noPair(x, 150);
        noPair(x, 300);
        noPair(x, -1);
    }

    /** 15 submissions of each of 20: each has a pair with every greater person. */
    private static void mostPairs() {
        ContestRows x = contest(20, 1);
        for (int i = 0; i < 300; i++) {
            x.submit(i % 20, 0, i / 20, 3, false);
        }
        pair(x, 0, 0, 1, 0, 0);
        pair(x, 18, 0, 19, 0, 0);
        pair(x, 19, 1, 2, 0, 0);
        pair(x, 189, 18, 19, 0, 0);
        pair(x, 190, 0, 1, 0, 1);
        pair(x, 15 * 190 - 1, 18, 19, 0, 14);
        noPair(x, 15 * 190);
    }

    // ---- Promises 1 to 4

    private static void newAndEmpty() {
        ContestRows x = new ContestRows();
        due("even", x.even(1, 0), -1);
        due("apart", x.apart(), -1);
        due("points", x.points(0, 0), -1);
        due("score", x.score(0, 0), -1);
        due("rank", x.score(0, 3), -1);
        due("place", x.place(0), -1);
        due("shared", x.shared(0, 0), false);
        due("late", x.late(0), false);
        due("correct", x.correct(0, false), false);
        due("correct", x.correct(0, true), false);
        due("suspicious", x.suspicious(0, 0), -1);
        due("start", x.start(0, 0), false);
        due("submit", x.submit(0, 0, 0, 0, false), -1);
        due("rules of no text", x.rules(), 0);
        due("the first puzzle", x.puzzle(1), 0);
        due("the first person", x.person(), 0);
        due("its start", x.start(0, 0), true);
        due("the first submission", x.submit(0, 0, 0, 0, false), 0);
    }

    private static void newBesideAnother() {
        ContestRows full = busy();
        tell(full, ";P1;D0;T0;");
        ContestRows x = contest(2, 1);
        x.submit(0, 0, 1, 0, true);
        due("puzzles of its own", x.apart(), 1);
        due("persons of its own", x.place(2), -1);
        due("rules of its own", x.points(0, 0), 100);
        due("a text of its own", x.rules(), 0);
        due("the other is as it was", full.late(0), true);
        due("the other's persons", full.score(3, 2), 0);
    }

    private static void grades() {
        int[] good = {1, 2, 50, 99, 100};
        for (int grade : good) {
            ContestRows x = new ContestRows();
            due("puzzle " + grade, x.puzzle(grade), 0);
            due("apart of it alone", x.apart(), grade);
        }
        int[] bad = {0, -1, -100, 101, 102, 256 + 1, LOW, LOW + 1, HIGH};
        for (int grade : bad) {
            due("puzzle " + grade, new ContestRows().puzzle(grade), -1);
            refused("puzzle " + grade, x -> x.puzzle(grade));
        }
    }

    private static void fullOfPuzzles() {
        ContestRows x = contest(1, row(20, 3));
        for (int grade : new int[] {1, 100, 0, 101}) {
            due("puzzle " + grade + " above 20", x.puzzle(grade), -1);
        }
        due("even of puzzle 19", x.even(6, 19), 1);
        due("no puzzle 20", x.even(6, 20), -1);
        due("sums as they were", x.apart(), 0);
        due("no points for puzzle 20", x.points(0, 20), -1);
    }

    private static void fullOfPersons() {
        ContestRows x = contest(20, 1);
        due("person", x.person(), -1);
        due("person", x.person(), -1);
        due("score of 19", x.score(19, 2), 0);
        due("score of 20", x.score(20, 2), -1);
        due("19 has its start still", x.submit(19, 0, 0, 0, true), 0);
        due("0 has its start still", x.submit(0, 0, 0, 0, true), 1);
        due("19 and 20", x.shared(19, 20), false);
        due("0 and 19", x.shared(0, 19), true);
    }

    private static void bytes() {
        ContestRows x = new ContestRows();
        int[] bad = {-1, -2, -128, -176, 256, 257, 256 + 'P', 65_536 + 'P', LOW, LOW + 'P', HIGH};
        for (int u : bad) {
            due("unit " + u, x.unit(u), false);
            denied("unit " + u, y -> y.unit(u));
        }
        due("the text is empty still", x.rules(), 0);
        int[] good = {0, 1, 127, 128, 254, 255};
        for (int u : good) {
            due("unit " + u, x.unit(u), true);
            due("it stands in the text", x.rules(), -1);
        }
    }

    private static void fullText() {
        ContestRows x = new ContestRows();
        for (int i = 0; i < 99; i++) {
            due("unit " + i, x.unit("P1;".charAt(i % 3)), true);
        }
        due("unit 99", x.unit('F'), true);
        due("unit 100", x.unit('2'), false);
        due("unit 101", x.unit(';'), false);
        due("it ends at 100", x.rules(), -101);
        due("the text is gone", x.rules(), 0);
        for (int i = 0; i < 100; i++) {
            due("unit " + i + " anew", x.unit("P12;".charAt(i % 4)), true);
        }
        due("unit 100 anew", x.unit('X'), false);
        due("the 101st byte was not put", x.rules(), 25);
    }

    // ---- Promise 5

    private static void gone() {
        ContestRows x = contest(1, 1);
        x.submit(0, 0, 0, 0, true);
        due("a text", tell(x, "P7;"), 1);
        due("gone when taken", x.rules(), 0);
        due("the rule is so still", x.points(0, 0), 7);
        due("a wrong text", tell(x, "P8"), -3);
        due("gone when refused", x.rules(), 0);
        due("what comes does not stand behind it", tell(x, ";"), -1);
        due("nor in it", tell(x, "P9;"), 1);
        due("the last rule", x.points(0, 0), 9);
    }

    private static void howManyRules() {
        told("", 0);
        StringBuilder text = new StringBuilder();
        for (int many = 1; many <= 33; many++) {
            text.append(LETTERS.charAt(many % 5)).append("1;");
            told(text.toString(), many);
        }
        told("P1;F1;W1;D1;T1;", 5);
    }

    private static void letters() {
        for (int u = 0; u < 256; u++) {
            boolean letter = LETTERS.indexOf(u) >= 0;
            told((char) u + "1;", letter ? 1 : -1);
            told("D1;" + (char) u + "1;", letter ? 2 : -4);
            told("D1" + (char) u, u == ';' ? 1 : u >= '0' && u <= '9' ? -4 : -3);
        }
    }

    private static void digits() {
        for (int u = 0; u < 256; u++) {
            boolean digit = u >= '0' && u <= '9';
            told("P" + (char) u + ";", digit ? 1 : -2);
            told("P12" + (char) u + "4;", digit ? 1 : u == ';' ? -5 : -4);
            told("P123" + (char) u, digit ? -6 : u == ';' ? 1 : -5);
            told("P1234" + (char) u, u == ';' ? 1 : -6);
        }
        for (int i = 0; i < 5; i++) {
            char letter = LETTERS.charAt(i);
            told(letter + ";", -2);
            told(letter + "0;", 1);
            told(letter + "00;", 1);
            told(letter + "000;", 1);
            told(letter + "0000;", 1);
            told(letter + "00000;", -6);
        }
    }

    private static void digitValues() {
        worth("P0;", 1, 0, 0);
        worth("P9;", 1, 0, 9);
        worth("P10;", 1, 0, 10);
        worth("P123;", 1, 0, 123);
        worth("P9999;", 1, 0, 9999);
        worth("P9999;", 100, 0, 999_900);
        worth("P0009;", 1, 0, 9);
        worth("P0;P0100;", 1, 0, 100);
        worth("F1234;P9999;", 1, 60, 9999 - 1234);
        worth("F9999;P9999;", 1, 60, 0);
        worth("F9998;P9999;", 1, 60, 1);
        ContestRows x = contest(1, "W9998;P9999;", 1);
        x.submit(0, 0, 0, 0, false);
        x.submit(0, 0, 0, 0, true);
        due("W 9998", x.points(0, 0), 1);
        tell(x, "W9999;");
        due("W 9999", x.points(0, 0), 0);
    }

    private static void latterOfTwo() {
        worth("P1;P2;", 1, 0, 2);
        worth("P2;P1;", 1, 0, 1);
        worth("P2;F1;P1;F0;", 1, 60, 1);
        worth("D0;D5;", 1, 5, 100);
        worth("D5;D0;", 1, 5, -1);
        ContestRows x = contest(2, "T1;T0;", 1);
        x.submit(0, 0, 5, 0, true);
        x.submit(1, 0, 6, 0, true);
        due("T 0 is the latter", x.shared(0, 1), true);
        due("two were told", tell(x, "T0;T1;"), 2);
        due("T 1 is the latter", x.shared(0, 1), false);
        due("none is told", x.rules(), 0);
        due("T 1 is so still", x.shared(0, 1), false);
    }

    private static void zeroOrOne() {
        for (int value = 0; value < 10_000; value++) {
            String digits = Integer.toString(value);
            told("T" + digits + ";", value < 2 ? 1 : -1 - digits.length());
        }
        for (String digits : new String[] {"00", "01", "000", "001", "0000", "0001"}) {
            told("T" + digits + ";", 1);
        }
        for (String digits : new String[] {"02", "09", "10", "11", "002", "010", "0002", "0010", "1000", "0011"}) {
            told("T" + digits + ";", -1 - digits.length());
        }
    }

    private static void placeOfFirstBadByte() {
        told("X", -1);
        told("XX", -1);
        told(";", -1);
        told("1;", -1);
        told("PX", -2);
        told("PX;X", -2);
        told("P1X;", -3);
        told("P1;X;X", -4);
        told("P1;;", -4);
        told("P1234X;", -6);
        told("P12345;", -6);
        told("P1;PX;T2;", -5);
        StringBuilder text = new StringBuilder();
        for (int i = 0; i < 33; i++) {
            text.append("P1;");
        }
        told(text + "X", -100);
        told(text.substring(0, 98) + "X", -99);
    }

    private static void endsTooSoon() {
        for (int i = 0; i < 5; i++) {
            String letter = LETTERS.substring(i, i + 1);
            told(letter, -2);
            told(letter + "1", -3);
            told(letter + "00", -4);
            told(letter + "000", -5);
            told(letter + "0001", -6);
            told("P1;" + letter, -5);
            told("P1;" + letter + "1", -6);
        }
    }

    private static void lastDigitOfT() {
        told("T2;", -2);
        told("T20;", -3);
        told("T200;", -4);
        told("T2000;", -5);
        told("T9999;", -5);
        told("P1;T2;", -5);
        told("T1;T2;", -5);
        told("T2;T1;", -2);
        told("T2;X", -2);
        told("T2", -2);
        told("T2X", -2);
        told("T12345;", -5);
    }

    private static void rulesStay() {
        String[] faults = {"X", "P", "P;", "P5", "T2;", "P12345;", "T1"};
        for (String fault : faults) {
            ContestRows x = contest(2, "P10;F1;W2;D60;T1;", 1);
            x.submit(0, 0, 59, 0, false);
            x.submit(0, 0, 60, 0, true);
            x.submit(1, 0, 61, 0, true);
            due("a wrong text ends with " + fault, tell(x, "P20;F3;W5;D61;T0;" + fault) < 0, true);
            due("P, F and W stay", x.points(0, 0), 10 - 1 - 2);
            due("D stays", x.late(2), true);
            tell(x, "D61;P0;");
            due("T stays", x.shared(0, 1), false);
            due("T 0", tell(x, "T0;"), 1);
            due("T 0", x.shared(0, 1), true);
            due("another wrong text", tell(x, "T1;" + fault) < 0, true);
            due("T stays 0", x.shared(0, 1), true);
        }
    }

    // ---- Promises 6 to 9

    private static void startOnceMore() {
        ContestRows x = contest(0, 1);
        x.person();
        int[] seconds = {0, 0, MILLION, MILLION, 0, 5, 4, 6};
        for (int second : seconds) {
            due("start at " + second, x.start(0, second), true);
            due("submit ahead of it", x.submit(0, 0, second - 1, 0, true), -1);
        }
        due("submit at it", x.submit(0, 0, 6, 0, true), 0);
        due("the same start", x.start(0, 6), true);
    }

    private static void startOfNoPerson() {
        due("start of 0 when there are none", new ContestRows().start(0, 0), false);
        for (int person : new int[] {-1, 4, 5, 19, 20, LOW, HIGH}) {
            denied("start of " + person, x -> x.start(person, 0));
        }
        due("start of the last", busy().start(3, 0), true);
    }

    private static void startSeconds() {
        for (int second : new int[] {-1, MILLION + 1, LOW, HIGH}) {
            denied("start at " + second, x -> x.start(3, second));
            denied("start at " + second, x -> x.start(0, second));
        }
        for (int second : new int[] {0, 1, MILLION - 1, MILLION}) {
            ContestRows x = busy();
            due("start at " + second, x.start(3, second), true);
            due("submit ahead of it", x.submit(3, 0, second - 1, 0, true), -1);
            due("submit at it", x.submit(3, 0, second, 0, true), 7);
        }
    }

    private static void earlierSubmission() {
        denied("start of 0 at 31", x -> x.start(0, 31));
        denied("start of 1 at 61", x -> x.start(1, 61));
        denied("start of 2 at 41, its earliest not its first", x -> x.start(2, 41));
        denied("start of 0 at a million", x -> x.start(0, MILLION));
        ContestRows x = busy();
        due("start of 0 at its earliest", x.start(0, 30), true);
        due("start of 1 at its earliest", x.start(1, 60), true);
        due("start of 2 at its earliest", x.start(2, 40), true);
        due("start of 3 without submissions", x.start(3, MILLION), true);
        due("S is counted anew", x.score(0, 1), 60);
        due("start of 0 back", x.start(0, 0), true);
        due("S is counted anew", x.score(0, 1), 90);
    }

    private static void submitByNone() {
        for (int n : new int[] {-1, 4, 5, 20, LOW, HIGH}) {
            refused("submit of person " + n, x -> x.submit(n, 0, 500, 0, true));
        }
        for (int n : new int[] {-1, 3, 4, 20, LOW, HIGH}) {
            refused("submit for puzzle " + n, x -> x.submit(0, n, 500, 0, true));
        }
        refused("submit without a start", x -> x.submit(3, 0, 500, 0, true));
        due("submit for the last puzzle", busy().submit(0, 2, 500, 0, true), 7);
        due("submit of the last that has a start", busy().submit(2, 0, 500, 0, true), 7);
        due("no puzzles", contest(1).submit(0, 0, 0, 0, true), -1);
        due("no persons", contest(0, 1).submit(0, 0, 0, 0, true), -1);
    }

    private static void submitSeconds() {
        for (int second : new int[] {19, 0, -1, MILLION + 1, LOW, HIGH}) {
            refused("submit at " + second, x -> x.submit(1, 1, second, 0, true));
        }
        refused("submit at -1 with start 0", x -> x.submit(0, 1, -1, 0, true));
        for (int second : new int[] {20, 21, MILLION - 1, MILLION}) {
            due("submit at " + second, busy().submit(1, 1, second, 0, true), 7);
        }
        ContestRows x = busy();
        x.start(3, MILLION);
        due("one second ahead of the last", x.submit(3, 0, MILLION - 1, 0, true), -1);
        due("start and submission at the last second", x.submit(3, 0, MILLION, 0, true), 7);
    }

    private static void submitAnswers() {
        for (int answer : new int[] {-1, -2, LOW, LOW + 1}) {
            refused("submit of answer " + answer, x -> x.submit(0, 1, 50, answer, true));
            refused("submit of wrong answer " + answer, x -> x.submit(0, 1, 50, answer, false));
        }
        for (int answer : new int[] {0, 1, HIGH - 1, HIGH}) {
            due("submit of answer " + answer, busy().submit(0, 1, 50, answer, true), 7);
        }
    }

    private static void submitWhenFull() {
        ContestRows x = fullOfSubmissions();
        long before = x.points(1, 0);
        due("right", x.submit(1, 0, 0, 0, true), -1);
        due("wrong", x.submit(1, 0, 0, 0, false), -1);
        due("another puzzle", x.submit(1, 1, 0, 0, true), -1);
        due("points", x.points(1, 0), before);
        due("count", x.score(1, 2), 1);
        due("no pair came", x.suspicious(0, 3), 1);
        due("a start that such a one would forbid", x.start(1, 2), true);
        due("a refused one takes no number", x.late(300), false);
    }

    private static void correctNone() {
        due("correct in an empty contest", contest(1, 1).correct(0, true), false);
        for (int n : new int[] {-1, 7, 8, 299, 300, LOW, HIGH}) {
            denied("correct " + n + " to right", x -> x.correct(n, true));
            denied("correct " + n + " to wrong", x -> x.correct(n, false));
        }
        due("correct the first", busy().correct(0, true), true);
        due("correct the last", busy().correct(6, false), true);
    }

    private static void correctSoAlready() {
        boolean[] rights = {false, false, true, true, true, false, true};
        for (int i = 0; i < rights.length; i++) {
            int n = i;
            boolean right = rights[i];
            denied("correct " + n + " to what it is", x -> x.correct(n, right));
            ContestRows x = busy();
            due("correct " + n, x.correct(n, !right), true);
            due("correct " + n + " once more", x.correct(n, !right), false);
            due("correct " + n + " back", x.correct(n, right), true);
            due("correct " + n + " back once more", x.correct(n, right), false);
        }
        doesNothing("a correction and its reverse", x -> {
            x.correct(2, false);
            x.correct(2, true);
        });
    }

    private static void lateNone() {
        ContestRows x = contest(1, "D0;", 1);
        x.submit(0, 0, 1, 0, true);
        due("the only one", x.late(0), true);
        for (int n : new int[] {-1, 1, 2, 299, 300, LOW, HIGH}) {
            due("late " + n, x.late(n), false);
        }
        due("late in a new contest", new ContestRows().late(0), false);
    }

    /** Right ones and wrong ones alike, and by the rules and starts of now. */
    private static void lateNow() {
        ContestRows x = contest(1, 1);
        x.submit(0, 0, 3600, 0, false);
        x.submit(0, 0, 3601, 0, false);
        due("wrong one at D", x.late(0), false);
        due("wrong one above D", x.late(1), true);
        x.start(0, 1);
        due("by the start of now", x.late(1), false);
        tell(x, "D3599;");
        due("by the rules of now", x.late(0), false);
        due("by the rules of now", x.late(1), true);
    }

    // ---- Promises 10 to 16

    private static void scoreOfNone() {
        ContestRows x = busy();
        for (int what = 0; what < 4; what++) {
            due("what " + what + " of the first", x.score(0, what) >= 0, true);
            due("what " + what + " of the last", x.score(3, what) >= 0, true);
            for (int person : new int[] {-1, 4, 5, 20, LOW, HIGH}) {
                due("what " + what + " of " + person, x.score(person, what), -1);
            }
        }
        for (int what : new int[] {-1, 4, 5, LOW, HIGH}) {
            due("what " + what, x.score(0, what), -1);
            due("what " + what + " of none", x.score(4, what), -1);
        }
    }

    private static void pointsOfNone() {
        ContestRows x = busy();
        due("points that count", x.points(0, 0), 500 - 10 - 3);
        due("points for the last puzzle", x.points(2, 2), 500 - 20);
        due("none submitted", x.points(0, 1), -1);
        due("only wrong ones", x.points(2, 0), -1);
        due("only a late one", x.points(2, 1), -1);
        due("no start", x.points(3, 0), -1);
        for (int n : new int[] {-1, LOW, HIGH, 20}) {
            due("points of person " + n, x.points(n, 0), -1);
            due("points for puzzle " + n, x.points(0, n), -1);
            due("points of none for none", x.points(n, n), -1);
        }
        due("points of person 4", x.points(4, 0), -1);
        due("points for puzzle 3", x.points(0, 3), -1);
        tell(x, ";P0;");
        due("0 points that count", x.points(0, 0), 0);
    }

    private static void placeOfNone() {
        ContestRows x = contest(3, 1);
        x.submit(2, 0, 0, 0, true);
        due("place 0", x.place(0), 2);
        due("place 2", x.place(2), 1);
        for (int k : new int[] {-1, 3, 4, 20, LOW, HIGH}) {
            due("place " + k, x.place(k), -1);
        }
        due("place in a new contest", new ContestRows().place(0), -1);
    }

    private static void sharedOfNone() {
        ContestRows x = contest(3, 1);
        for (int a = 0; a < 3; a++) {
            due("one with themselves", x.shared(a, a), true);
            due("the last with " + a, x.shared(2, a), true);
        }
        for (int n : new int[] {-1, 3, 4, 20, LOW, HIGH}) {
            due("none and 0", x.shared(n, 0), false);
            due("0 and none", x.shared(0, n), false);
            due("none and the same", x.shared(n, n), false);
        }
        due("-1 and 3", x.shared(-1, 3), false);
    }

    private static void suspiciousNone() {
        ContestRows x = contest(2, 1);
        noPair(x, 0);
        x.submit(0, 0, 0, 0, false);
        x.submit(1, 0, 1, 0, false);
        pair(x, 0, 0, 1, 0, 1);
        for (int n : new int[] {-1, 1, 2, LOW, HIGH}) {
            noPair(x, n);
        }
        for (int what : new int[] {-1, 4, 5, LOW, HIGH}) {
            due("what " + what, x.suspicious(0, what), -1);
            due("what " + what + " of none", x.suspicious(1, what), -1);
        }
    }

    private static void manySets() {
        ContestRows x = contest(0, 9, 8, 7, 6, 5, 4, 3);
        int[] six = {0, 1, 2, 3, 4, 5, 5};
        int[] two = {0, 1, 1, 0, 0, 1, 1};
        for (int puzzle = 0; puzzle < 7; puzzle++) {
            due("one set, puzzle " + puzzle, x.even(1, puzzle), 0);
            due("six sets, puzzle " + puzzle, x.even(6, puzzle), six[puzzle]);
            due("two sets, puzzle " + puzzle, x.even(2, puzzle), two[puzzle]);
        }
        for (int sets : new int[] {0, -1, 7, 8, LOW, HIGH}) {
            due("sets " + sets, x.even(sets, 0), -1);
            due("sets " + sets + " of the last", x.even(sets, 6), -1);
        }
    }

    private static void setOfNone() {
        ContestRows x = contest(0, 9, 8);
        due("the last puzzle", x.even(2, 1), 1);
        for (int puzzle : new int[] {-1, 2, 3, 19, 20, LOW, HIGH}) {
            for (int sets = 0; sets < 8; sets++) {
                due("puzzle " + puzzle + ", sets " + sets, x.even(sets, puzzle), -1);
            }
        }
    }

    private static void moreSetsThanPuzzles() {
        ContestRows x = contest(0, 1, 2);
        for (int sets = 2; sets < 7; sets++) {
            due("the greater grade", x.even(sets, 1), 0);
            due("the lesser grade", x.even(sets, 0), 1);
        }
        due("one puzzle alone", contest(0, 1).even(6, 0), 0);
    }

    private static void alikeGrades() {
        ContestRows x = contest(0, row(20, 100));
        for (int sets = 1; sets < 7; sets++) {
            for (int puzzle = 0; puzzle < 20; puzzle++) {
                due("sets " + sets + ", puzzle " + puzzle, x.even(sets, puzzle), puzzle % sets);
            }
        }
        ContestRows y = contest(0, 5, 6, 5);
        due("the greater one", y.even(3, 1), 0);
        due("the first of alike ones", y.even(3, 0), 1);
        due("the second of alike ones", y.even(3, 2), 2);
    }

    private static void fallingGrades() {
        ContestRows x = contest(0, 1, 2, 3, 4, 5, 6);
        ContestRows y = contest(0, 4, 2, 6, 1, 5, 3);
        int[] ofRising = {5, 4, 3, 2, 1, 0};
        int[] ofMixed = {2, 4, 0, 5, 1, 3};
        // 6, 1 | 5, 2 | 4, 3.
        int[] inThree = {0, 1, 2, 2, 1, 0};
        for (int puzzle = 0; puzzle < 6; puzzle++) {
            due("rising, puzzle " + puzzle, x.even(6, puzzle), ofRising[puzzle]);
            due("rising in three, puzzle " + puzzle, x.even(3, puzzle), inThree[puzzle]);
            due("mixed, puzzle " + puzzle, y.even(6, puzzle), ofMixed[puzzle]);
        }
    }

    private static void alikeSums() {
        // Set 0 has 6, set 1 has 3 and 3: alike sums, one puzzle and two.
        due("fewest in the lesser set", contest(0, 6, 3, 3, 1).even(2, 3), 0);
        // Set 0 has 6, 2 and 1, set 1 has 5 and 4.
        due("fewest in the greater set", contest(0, 6, 5, 4, 2, 1, 1).even(2, 5), 1);
        // Sets 0 and 1 have 4 each: alike sums and counts.
        due("then the least", contest(0, 4, 4, 2).even(2, 2), 0);
        // 5 and 2 in set 0, 4 and 3 in set 1.
        due("then the least", contest(0, 5, 4, 3, 2, 1).even(2, 4), 0);
        // 9 | 8 | 7 of three sets: the sums alone decide.
        due("the least sum", contest(0, 9, 8, 7, 1).even(3, 3), 2);
        // One more in the sum than the other set, though with fewer puzzles.
        due("a lesser sum of more puzzles", contest(0, 7, 3, 3, 1).even(2, 3), 1);
        // Set 0 has 6, 2 and 1, set 1 has 5 and 5.
        due("a lesser sum of more puzzles", contest(0, 6, 5, 5, 2, 1, 1).even(2, 5), 0);
    }

    private static void setsAnew() {
        ContestRows x = contest(0, 1);
        due("alone", x.even(2, 0), 0);
        x.puzzle(2);
        due("behind a greater one", x.even(2, 0), 1);
        x.puzzle(2);
        due("behind two", x.even(2, 0), 0);
        x.puzzle(101);
        due("a refused one is put nowhere", x.even(2, 0), 0);
        due("asking changes nothing", x.even(2, 0), 0);
    }

    private static void leastDifference() {
        due("none", new ContestRows().apart(), -1);
        due("one of 1", contest(0, 1).apart(), 1);
        due("one of 100", contest(0, 100).apart(), 100);
        due("two alike", contest(0, 100, 100).apart(), 0);
        due("two by 1", contest(0, 100, 99).apart(), 1);
        due("two far", contest(0, 100, 1).apart(), 99);
        due("one above the rest", contest(0, 100, 1, 2, 3).apart(), 94);
        due("better than putting each to the least", contest(0, 3, 3, 2, 2, 2).apart(), 0);
        due("twos", contest(0, 64, 32, 16, 8, 4, 2, 1).apart(), 1);
        due("20 of 100", contest(0, row(20, 100)).apart(), 0);
        due("19 of 100", contest(0, row(19, 100)).apart(), 100);
        due("20 of 1", contest(0, row(20, 1)).apart(), 0);
        due("19 of 1", contest(0, row(19, 1)).apart(), 1);
        int[] grades = row(20, 100);
        grades[19] = 1;
        due("19 of 100 and one of 1", contest(0, grades).apart(), 99);
        grades[0] = 99;
        due("18 of 100, 99 and 1", contest(0, grades).apart(), 98);
        grades[0] = 2;
        due("18 of 100, 2 and 1", contest(0, grades).apart(), 1);
    }

    private static void eachWay() {
        int[] grades = {13, 7, 91, 42, 42, 8, 100, 1, 77, 30};
        ContestRows x = new ContestRows();
        for (int many = 1; many <= grades.length; many++) {
            x.puzzle(grades[many - 1]);
            int least = HIGH;
            for (int way = 0; way < 1 << many; way++) {
                int difference = 0;
                for (int i = 0; i < many; i++) {
                    difference += (way >> i & 1) == 0 ? grades[i] : -grades[i];
                }
                least = Math.min(least, Math.abs(difference));
            }
            due("apart of " + many, x.apart(), least);
        }
    }

    private static void asksDoNothing() {
        List<Consumer<ContestRows>> asks = List.of(
            x -> x.late(4), x -> x.score(0, 0), x -> x.score(1, 3), x -> x.points(2, 2), x -> x.place(1),
            x -> x.shared(0, 1), x -> x.suspicious(0, 3), x -> x.even(6, 2), x -> x.apart());
        for (int i = 0; i < asks.size(); i++) {
            doesNothing("ask " + i, asks.get(i));
        }
        int[] bad = {-1, LOW, HIGH, 100};
        for (int n : bad) {
            doesNothing("asks of " + n, x -> {
                x.late(n);
                x.score(n, n);
                x.points(n, n);
                x.place(n);
                x.shared(n, n);
                x.suspicious(n, n);
                x.even(n, n);
            });
        }
    }

    /** 512 calls fill all that can be full; the last of them answers as the first. */
    private static void lastCall() {
        ContestRows x = contest(20, row(20, 5));
        for (int i = 0; i < 100; i++) {
            x.unit("W01;".charAt(i % 4));
        }
        for (int i = 0; i < 300; i++) {
            x.submit(i % 20, i % 20, i, 0, i == 299);
        }
        // 60 calls made the contest, 400 filled it: these are the last 52.
        for (int i = 0; i < 50; i++) {
            due("late", x.late(i), false);
        }
        due("the 511th call", x.rules(), 25);
        due("the 512th call", x.score(19, 0), 500 - 14);
    }

    // ---- All

    private static void terms() {
        of("What it is", "an object is used for at most 512 calls", EdgeTest::lastCall);
        of("Terms", "puzzles are numbered from 0 on, at most 20, each with a grade 1 to 100", EdgeTest::manyPuzzles);
        of("Terms", "persons likewise, at most 20", EdgeTest::manyPersons);
        of("Terms", "a person has a start or none yet", EdgeTest::noStartYet);
        of("Terms", "submissions, numbered from 0 on, at most 300", EdgeTest::manySubmissions);
        of("Terms", "an answer is a number", EdgeTest::wholeAnswers);
        of("Terms", "the rules, as at first", EdgeTest::rulesAtFirst);
        of("Terms", "their first right one, by seconds, of alike ones by numbers", EdgeTest::firstRightOne);
        of("Terms", "and not late", EdgeTest::firstRightOneLate);
        of("Terms", "S is counted from the person's start", EdgeTest::secondsFromStart);
        of("Terms", "late when S is above D", EdgeTest::lateAboveD);
        of("Terms", "less grade times F for each full minute of S", EdgeTest::fullMinutes);
        of("Terms", "less W for each that is not right and comes ahead of it", EdgeTest::wrongOnesAhead);
        of("Terms", "less W for each, when there are none", EdgeTest::noWrongOnesAhead);
        of("Terms", "at least 0", EdgeTest::atLeastZero);
        of("Terms", "at least 0, of each puzzle for itself", EdgeTest::lostMoreThanAll);
        of("Terms", "the score is the sum of points, the time the sum of S of all that count", EdgeTest::greatestSums);
        of("Terms", "persons by falling scores", EdgeTest::byFallingScores);
        of("Terms", "of alike ones, with T 1, by rising times, then by numbers", EdgeTest::byRisingTimes);
        of("Terms", "with T 0 all are alike", EdgeTest::timesAlike);
        of("Terms", "a rank is 1 and how many are ahead, but not alike", EdgeTest::ranks);
    }

    private static void termsOfPairs() {
        of("Terms", "a pair of persons A, B, A less than B", EdgeTest::lesserPersonIsA);
        of("Terms", "when both are at most 60 seconds apart", EdgeTest::sixtySeconds);
        of("Terms", "by their seconds, not from starts", EdgeTest::notFromStarts);
        of("Terms", "the first one of B, by numbers", EdgeTest::firstOfB);
        of("Terms", "for the same puzzle, with the same answer", EdgeTest::samePuzzleAndAnswer);
        of("Terms", "of A that is not right, of B that is not right", EdgeTest::notRightOnes);
        of("Terms", "listed by numbers of A's submissions, then of B", EdgeTest::listed);
        of("Terms", "for each submission of A, with 300", EdgeTest::fullOfPairs);
        of("Terms", "for each submission of A, with 300 of 20 persons", EdgeTest::mostPairs);
    }

    private static void firstPromises() {
        of("1", "no puzzles, no persons", EdgeTest::newAndEmpty);
        of("1", "a new object, beside another", EdgeTest::newBesideAnother);
        of("2", "-1 when the grade is not 1 to 100", EdgeTest::grades);
        of("2", "-1 when there are 20", EdgeTest::fullOfPuzzles);
        of("3", "-1 when there are 20", EdgeTest::fullOfPersons);
        of("4", "false, doing nothing, when it is not 0 to 255", EdgeTest::bytes);
        of("4", "false, doing nothing, when there are 100", EdgeTest::fullText);
        of("5", "the text is gone then", EdgeTest::gone);
        of("5", "any number of them, how many", EdgeTest::howManyRules);
        of("5", "a letter P, F, W, D or T, and a semicolon", EdgeTest::letters);
        of("5", "one to four digits", EdgeTest::digits);
        of("5", "these rules are so from then on", EdgeTest::digitValues);
        of("5", "of a letter told twice the latter", EdgeTest::latterOfTwo);
        of("5", "T may be 0 or 1 only", EdgeTest::zeroOrOne);
        of("5", "-1 less the place of the first byte that may not be there", EdgeTest::placeOfFirstBadByte);
        of("5", "how many bytes there are, when it ends too soon", EdgeTest::endsTooSoon);
        of("5", "the last digit of a T that may not be", EdgeTest::lastDigitOfT);
        of("5", "then the rules stay", EdgeTest::rulesStay);
    }

    private static void laterPromises() {
        of("6", "a start is told, also once more", EdgeTest::startOnceMore);
        of("6", "false, doing nothing, when there is no such person", EdgeTest::startOfNoPerson);
        of("6", "false, doing nothing, when the second is not 0 to 1,000,000", EdgeTest::startSeconds);
        of("6", "false, doing nothing, when a submission of theirs is earlier", EdgeTest::earlierSubmission);
        of("7", "-1, doing nothing, when there is no such person or puzzle, or no start", EdgeTest::submitByNone);
        of("7", "-1, doing nothing, when the second is not from their start on", EdgeTest::submitSeconds);
        of("7", "-1, doing nothing, when the answer is below 0", EdgeTest::submitAnswers);
        of("7", "-1, doing nothing, when there are 300", EdgeTest::submitWhenFull);
        of("8", "false when there is none such", EdgeTest::correctNone);
        of("8", "false when it is so already", EdgeTest::correctSoAlready);
        of("9", "false when there is none such", EdgeTest::lateNone);
        of("9", "whether a submission is late", EdgeTest::lateNow);
        of("10", "-1 when there is none such", EdgeTest::scoreOfNone);
        of("11", "-1 when none count, or there is none such", EdgeTest::pointsOfNone);
        of("12", "-1 when there is none such", EdgeTest::placeOfNone);
        of("13", "also when they are one, false when there is none such", EdgeTest::sharedOfNone);
        of("14", "-1 when there is none such", EdgeTest::suspiciousNone);
        of("15", "sets 0 .. sets - 1, 1 to 6", EdgeTest::manySets);
        of("15", "-1 when there is no such puzzle", EdgeTest::setOfNone);
        of("15", "more sets than puzzles", EdgeTest::moreSetsThanPuzzles);
        of("15", "by falling grades", EdgeTest::fallingGrades);
        of("15", "of alike ones by numbers", EdgeTest::alikeGrades);
        of("15", "the least sum, the fewest puzzles, then the least", EdgeTest::alikeSums);
        of("15", "all puzzles are put", EdgeTest::setsAnew);
        of("16", "the least difference, -1 when there are none", EdgeTest::leastDifference);
        of("16", "that any way leaves", EdgeTest::eachWay);
        of("9 to 16", "an answer changes nothing", EdgeTest::asksDoNothing);
    }

    public static void main(String[] args) {
        terms();
        termsOfPairs();
        firstPromises();
        laterPromises();
        System.out.println(wrong == 0 ? sentences + " sentences hold" : wrong + " answers are not as due");
        if (wrong != 0) {
            System.exit(1);
        }
    }
}
