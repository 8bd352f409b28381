/** Each promise of the document by hand: ordinary inputs, the named edges, wrong inputs. */
public final class PromiseTest {
    private static final int LOW = Integer.MIN_VALUE;
    private static final int HIGH = Integer.MAX_VALUE;
    private static int wrong = 0;

    private static void due(String call, long got, long want) {
        if (got != want) {
            wrong++;
            System.out.println(call + " answered " + got + ", due is " + want);
        }
    }

    private static void due(String call, boolean got, boolean want) {
        due(call, got ? 1L : 0L, want ? 1L : 0L);
    }

    /** Tells a text and reads it. */
    private static int tell(ContestRows x, String text) {
        for (int i = 0; i < text.length(); i++) {
            due("1 unit of " + text, x.unit(text.charAt(i)), true);
        }
        return x.rules();
    }

    /** A contest with persons that all start at 0, and puzzles of these grades. */
    private static ContestRows contest(int persons, int... grades) {
        ContestRows x = new ContestRows();
        for (int grade : grades) {
            x.puzzle(grade);
        }
        for (int i = 0; i < persons; i++) {
            x.start(x.person(), 0);
        }
        return x;
    }

    private static void newObject() {
        ContestRows x = new ContestRows();
        due("1 apart", x.apart(), -1);
        due("1 even", x.even(1, 0), -1);
        due("1 place", x.place(0), -1);
        due("1 score", x.score(0, 0), -1);
        due("1 points", x.points(0, 0), -1);
        due("1 late", x.late(0), false);
        due("1 correct", x.correct(0, true), false);
        due("1 shared", x.shared(0, 0), false);
        due("1 suspicious", x.suspicious(0, 0), -1);
        due("1 start", x.start(0, 0), false);
        due("1 submit", x.submit(0, 0, 0, 0, true), -1);
        due("1 rules", x.rules(), 0);
        ContestRows y = contest(2, 7);
        y.submit(0, 0, 3599, 1, false);
        y.submit(0, 0, 3600, 1, true);
        y.submit(1, 0, 3601, 1, true);
        due("1 P 100, F 0, W 0", y.points(0, 0), 700);
        due("1 D 3600 not above", y.late(1), false);
        due("1 D 3600 above", y.late(2), true);
        ContestRows z = contest(2, 7);
        z.submit(0, 0, 10, 1, true);
        z.submit(1, 0, 9, 1, true);
        due("1 T 1", z.place(0), 1);
    }

    private static void puzzles() {
        ContestRows x = new ContestRows();
        int[] bad = {0, -1, 101, LOW, HIGH};
        for (int grade : bad) {
            due("2 puzzle " + grade, x.puzzle(grade), -1);
        }
        due("2 nothing was put", x.apart(), -1);
        for (int i = 0; i < 20; i++) {
            due("2 puzzle", x.puzzle(i % 2 == 0 ? 1 : 100), i);
        }
        due("2 puzzle 21", x.puzzle(50), -1);
        due("2 no puzzle 20", x.even(1, 20), -1);
        due("2 puzzle 19", x.even(1, 19), 0);
    }

    private static void persons() {
        ContestRows x = new ContestRows();
        for (int i = 0; i < 20; i++) {
            due("3 person", x.person(), i);
        }
        due("3 person 21", x.person(), -1);
        due("3 score of 19", x.score(19, 0), 0);
        due("3 no person 20", x.score(20, 0), -1);
    }

    private static void units() {
        ContestRows x = new ContestRows();
        int[] bad = {-1, 256, LOW, HIGH};
        for (int u : bad) {
            due("4 unit " + u, x.unit(u), false);
        }
        due("4 the text is empty", x.rules(), 0);
        due("4 unit 0", x.unit(0), true);
        due("4 unit 255", x.unit(255), true);
        due("4 byte 0 may not be", x.rules(), -1);
        due("4 unit 255", x.unit(255), true);
        due("4 byte 255 may not be", x.rules(), -1);
        for (int i = 0; i < 100; i++) {
            due("4 unit " + i, x.unit("P12;".charAt(i % 4)), true);
        }
        due("4 unit 101", x.unit('P'), false);
        due("4 25 rules", x.rules(), 25);
        due("4 room again", x.unit('P'), true);
        due("4 one byte", x.rules(), -2);
    }

    private static void rules() {
        ContestRows x = contest(1, 10);
        x.submit(0, 0, 60, 1, false);
        x.submit(0, 0, 125, 1, true);
        due("5 all letters", tell(x, "P50;F3;W7;D125;T0;"), 5);
        due("5 points", x.points(0, 0), 500 - 60 - 7);
        due("5 the text is gone", x.rules(), 0);
        due("5 an empty text changes nothing", x.points(0, 0), 433);
        due("5 D", tell(x, "D124;"), 1);
        due("5 late now", x.points(0, 0), -1);
        due("5 four digits", tell(x, "D9999;P9999;"), 2);
        due("5 points", x.points(0, 0), 99990 - 60 - 7);
        due("5 zeros ahead", tell(x, "P0050;W000;F0;T0001;"), 4);
        due("5 points", x.points(0, 0), 500);
        due("5 the latter", tell(x, "P5;P7;P6;"), 3);
        due("5 points", x.points(0, 0), 60);
        String[] texts = {"P", "P1", "P1;P", "P;", "P12345;", "1", ";", "p1;", "P1 ;", "P1;;", "P1;X", "P1;W2", "P-1;",
            "P/;", "P:;", "PP1;", "P1:", "Q1;", "D00000;", "F1;G"};
        int[] answers = {-2, -3, -5, -2, -6, -1, -1, -1, -3, -4, -4, -6, -2, -2, -2, -2, -3, -1, -6, -4};
        for (int i = 0; i < texts.length; i++) {
            due("5 " + texts[i], tell(x, texts[i]), answers[i]);
            due("5 gone behind " + texts[i], x.rules(), 0);
        }
        due("5 the rules stay", x.points(0, 0), 60);
        rulesOfT(x);
    }

    private static void rulesOfT(ContestRows x) {
        String[] texts = {"T2;", "T9;", "T10;", "T02;", "T0010;", "T9999;", "P1;T2;", "T1", "T0", "T;", "T00001;",
            "T1;T5;", "T2", "T2X"};
        int[] answers = {-2, -2, -3, -3, -5, -5, -5, -3, -3, -2, -6, -5, -2, -2};
        for (int i = 0; i < texts.length; i++) {
            due("5 " + texts[i], tell(x, texts[i]), answers[i]);
        }
        due("5 the rules stay", x.points(0, 0), 60);
        ContestRows y = contest(2, 1);
        y.submit(0, 0, 5, 0, true);
        y.submit(1, 0, 6, 0, true);
        due("5 T refused", tell(y, "T0;T2;"), -5);
        due("5 T is 1 still", y.shared(0, 1), false);
        due("5 T 0", tell(y, "T0;"), 1);
        due("5 T is 0", y.shared(0, 1), true);
        due("5 T 1", tell(y, "T0;T01;"), 2);
        due("5 T is 1", y.shared(0, 1), false);
    }

    private static void starts() {
        ContestRows x = new ContestRows();
        x.puzzle(1);
        x.person();
        due("6 person 1", x.start(1, 0), false);
        due("6 person -1", x.start(-1, 0), false);
        due("6 person low", x.start(LOW, 0), false);
        due("6 person high", x.start(HIGH, 0), false);
        due("6 second -1", x.start(0, -1), false);
        due("6 second 1000001", x.start(0, 1_000_001), false);
        due("6 second low", x.start(0, LOW), false);
        due("6 second high", x.start(0, HIGH), false);
        due("6 still none", x.submit(0, 0, 500, 0, true), -1);
        due("6 second 0", x.start(0, 0), true);
        due("6 second 1000000", x.start(0, 1_000_000), true);
        due("6 the latter is told", x.submit(0, 0, 999_999, 0, true), -1);
        due("6 once more", x.start(0, 100), true);
        x.person();
        x.start(1, 0);
        x.submit(1, 0, 3, 0, true);
        due("6 submit", x.submit(0, 0, 200, 0, true), 1);
        due("6 submit", x.submit(0, 0, 150, 0, false), 2);
        due("6 one is earlier", x.start(0, 151), false);
        due("6 doing nothing", x.score(0, 1), 100);
        due("6 none is earlier", x.start(0, 150), true);
        due("6 S anew", x.score(0, 1), 50);
        due("6 back", x.start(0, 0), true);
        due("6 S anew", x.score(0, 1), 200);
    }

    private static void submissions() {
        ContestRows x = new ContestRows();
        x.puzzle(1);
        x.person();
        due("7 no start", x.submit(0, 0, 0, 0, true), -1);
        x.start(0, 10);
        int[] bad = {-1, 1, LOW, HIGH};
        for (int n : bad) {
            due("7 person " + n, x.submit(n, 0, 10, 0, true), -1);
            due("7 puzzle " + n, x.submit(0, n, 10, 0, true), -1);
        }
        due("7 ahead of the start", x.submit(0, 0, 9, 0, true), -1);
        due("7 above a million", x.submit(0, 0, 1_000_001, 0, true), -1);
        due("7 second low", x.submit(0, 0, LOW, 0, true), -1);
        due("7 second high", x.submit(0, 0, HIGH, 0, true), -1);
        due("7 answer -1", x.submit(0, 0, 10, -1, true), -1);
        due("7 answer low", x.submit(0, 0, 10, LOW, true), -1);
        due("7 nothing was put", x.points(0, 0), -1);
        due("7 at the start", x.submit(0, 0, 10, 0, false), 0);
        due("7 a million", x.submit(0, 0, 1_000_000, HIGH, false), 1);
        for (int i = 2; i < 300; i++) {
            due("7 submit", x.submit(0, 0, 20, 5, i == 299), i);
        }
        due("7 the 301st", x.submit(0, 0, 20, 5, true), -1);
        due("7 the 300th counts", x.score(0, 2), 1);
        due("7 no submission 300", x.correct(300, true), false);
    }

    private static void corrections() {
        ContestRows x = contest(1, 4);
        tell(x, "W9;");
        x.submit(0, 0, 60, 1, false);
        x.submit(0, 0, 61, 2, true);
        due("8 points", x.points(0, 0), 391);
        due("8 so already", x.correct(1, true), false);
        due("8 so already", x.correct(0, false), false);
        due("8 none such", x.correct(2, true), false);
        due("8 none such", x.correct(-1, true), false);
        due("8 none such", x.correct(LOW, false), false);
        due("8 none such", x.correct(HIGH, false), false);
        due("8 right", x.correct(0, true), true);
        due("8 worked out anew", x.points(0, 0), 400);
        due("8 worked out anew", x.score(0, 1), 60);
        due("8 not right", x.correct(0, false), true);
        due("8 not right", x.correct(1, false), true);
        due("8 none counts", x.points(0, 0), -1);
        due("8 right again", x.correct(1, true), true);
        due("8 points", x.points(0, 0), 391);
    }

    private static void lateOnes() {
        ContestRows x = contest(1, 4);
        x.start(0, 10);
        x.submit(0, 0, 110, 1, false);
        x.submit(0, 0, 111, 1, true);
        tell(x, "D100;");
        due("9 S is D", x.late(0), false);
        due("9 S is above D", x.late(1), true);
        due("9 none such", x.late(2), false);
        due("9 none such", x.late(-1), false);
        due("9 none such", x.late(LOW), false);
        due("9 none such", x.late(HIGH), false);
        x.start(0, 9);
        due("9 by the new start", x.late(0), true);
        tell(x, "D0;");
        x.start(0, 110);
        due("9 D 0", x.late(0), false);
        due("9 D 0", x.late(1), true);
    }

    private static void scores() {
        ContestRows x = contest(4, 10, 20, 30);
        x.start(0, 5);
        x.submit(0, 0, 65, 1, true);
        x.submit(0, 2, 105, 1, true);
        x.submit(0, 1, 3606, 1, true);
        tell(x, "F1;");
        due("10 score", x.score(0, 0), 990 + 2970);
        due("10 time", x.score(0, 1), 160);
        due("10 how many", x.score(0, 2), 2);
        due("10 rank", x.score(0, 3), 1);
        due("10 rank of none", x.score(1, 3), 2);
        x.submit(3, 0, 10, 1, true);
        due("10 rank", x.score(3, 3), 2);
        due("10 rank shared", x.score(1, 3), 3);
        due("10 rank shared", x.score(2, 3), 3);
        due("10 score of none", x.score(1, 0), 0);
        due("10 time of none", x.score(1, 1), 0);
        due("10 count of none", x.score(1, 2), 0);
        int[] bad = {-1, 4, LOW, HIGH};
        for (int n : bad) {
            for (int what = 0; what < 4; what++) {
                due("10 person " + n, x.score(n, what), -1);
            }
            due("10 what " + n, x.score(0, n), -1);
        }
    }

    private static void pointsOfOne() {
        ContestRows x = contest(2, 10, 3);
        tell(x, "P100;F2;W5;");
        due("11 none", x.points(0, 0), -1);
        x.submit(0, 0, 119, 1, false);
        x.submit(0, 0, 179, 2, true);
        x.submit(0, 0, 179, 3, false);
        x.submit(0, 0, 118, 4, false);
        x.submit(0, 1, 100, 4, false);
        x.submit(1, 0, 100, 4, false);
        due("11 two full minutes, two wrong ones", x.points(0, 0), 1000 - 40 - 10);
        x.submit(0, 0, 179, 3, true);
        due("11 the first of alike seconds", x.points(0, 0), 950);
        x.correct(1, false);
        due("11 wrong ones of the same second ahead", x.points(0, 0), 1000 - 40 - 20);
        x.submit(0, 0, 120, 9, true);
        due("11 an earlier right one told later", x.points(0, 0), 950);
        due("11 only wrong ones", x.points(1, 0), -1);
        due("11 only wrong ones", x.points(0, 1), -1);
        tell(x, "W9999;");
        due("11 at least 0", x.points(0, 0), 0);
        due("11 0 counts", x.score(0, 2), 1);
        tell(x, "D119;");
        due("11 the first right one is late", x.points(0, 0), -1);
        int[] bad = {-1, 2, LOW, HIGH};
        for (int n : bad) {
            due("11 person " + n, x.points(n, 0), -1);
            due("11 puzzle " + n, x.points(0, n), -1);
        }
    }

    private static void places() {
        ContestRows x = contest(5, 10, 20);
        x.submit(1, 0, 50, 1, true);
        x.submit(2, 0, 40, 1, true);
        x.submit(3, 1, 90, 1, true);
        x.submit(4, 0, 40, 1, true);
        int[] byTimes = {3, 2, 4, 1, 0};
        int[] byNumbers = {3, 1, 2, 4, 0};
        for (int k = 0; k < 5; k++) {
            due("12 place with T 1", x.place(k), byTimes[k]);
        }
        tell(x, "T0;");
        for (int k = 0; k < 5; k++) {
            due("12 place with T 0", x.place(k), byNumbers[k]);
        }
        due("12 rank with T 0", x.score(4, 3), 2);
        due("12 rank with T 0", x.score(0, 3), 5);
        int[] bad = {-1, 5, LOW, HIGH};
        for (int k : bad) {
            due("12 place " + k, x.place(k), -1);
        }
        ContestRows y = contest(2, 10);
        tell(y, "P0;");
        y.submit(0, 0, 1, 1, true);
        due("12 a time with no points is behind none", y.place(0), 1);
    }

    private static void sharing() {
        ContestRows x = contest(4, 10);
        x.submit(0, 0, 50, 1, true);
        x.submit(1, 0, 50, 2, true);
        x.submit(2, 0, 51, 3, true);
        due("13 alike", x.shared(0, 1), true);
        due("13 alike", x.shared(1, 0), true);
        due("13 other times", x.shared(0, 2), false);
        due("13 other scores", x.shared(0, 3), false);
        due("13 one", x.shared(3, 3), true);
        tell(x, "T0;");
        due("13 T 0", x.shared(2, 0), true);
        due("13 T 0, other scores", x.shared(2, 3), false);
        int[] bad = {-1, 4, LOW, HIGH};
        for (int n : bad) {
            due("13 person " + n, x.shared(n, 0), false);
            due("13 person " + n, x.shared(0, n), false);
            due("13 person " + n, x.shared(n, n), false);
        }
    }

    private static void pair(ContestRows x, int k, int a, int b, int puzzle, int seconds) {
        due("14 A of " + k, x.suspicious(k, 0), a);
        due("14 B of " + k, x.suspicious(k, 1), b);
        due("14 puzzle of " + k, x.suspicious(k, 2), puzzle);
        due("14 seconds of " + k, x.suspicious(k, 3), seconds);
    }

    private static void noPair(ContestRows x, int k) {
        pair(x, k, -1, -1, -1, -1);
    }

    private static void suspiciousPairs() {
        ContestRows x = contest(3, 10, 20);
        x.submit(2, 1, 100, 7, false);
        x.submit(1, 1, 160, 7, false);
        x.submit(0, 1, 101, 7, false);
        pair(x, 0, 1, 2, 1, 60);
        pair(x, 1, 0, 1, 1, 59);
        pair(x, 2, 0, 2, 1, 1);
        noPair(x, 3);
        x.submit(0, 1, 99, 7, false);
        pair(x, 3, 0, 2, 1, 1);
        noPair(x, 4);
        x.submit(1, 1, 99, 7, false);
        pair(x, 3, 0, 2, 1, 1);
        pair(x, 4, 1, 2, 1, 1);
        noPair(x, 5);
        x.correct(1, true);
        pair(x, 0, 0, 1, 1, 2);
        pair(x, 2, 0, 1, 1, 0);
        pair(x, 4, 1, 2, 1, 1);
        noPair(x, 5);
        int[] bad = {-1, LOW, HIGH};
        for (int n : bad) {
            noPair(x, n);
            due("14 what " + n, x.suspicious(0, n), -1);
        }
        due("14 what 4", x.suspicious(0, 4), -1);
    }

    private static void noPairs() {
        ContestRows x = contest(2, 10, 20);
        x.submit(0, 0, 100, 7, false);
        x.submit(0, 0, 100, 7, false);
        noPair(x, 0);
        x.submit(1, 1, 100, 7, false);
        noPair(x, 0);
        x.submit(1, 0, 100, 8, false);
        noPair(x, 0);
        x.submit(1, 0, 100, 7, true);
        noPair(x, 0);
        // Submission 5 is B's first alike one from here on, and 61 seconds apart.
        x.submit(1, 0, 161, 7, false);
        noPair(x, 0);
        x.submit(1, 0, 100, 7, false);
        noPair(x, 0);
        x.start(1, 50);
        noPair(x, 0);
        x.correct(5, true);
        pair(x, 0, 0, 1, 0, 0);
        pair(x, 1, 0, 1, 0, 0);
        noPair(x, 2);
    }

    /** Of B 1 and B 2 the lesser person comes first, though its submission has the greater number. */
    private static void pairsByB() {
        ContestRows x = contest(3, 10);
        x.submit(2, 0, 10, 3, false);
        x.submit(0, 0, 12, 3, false);
        x.submit(1, 0, 200, 3, false);
        pair(x, 0, 0, 2, 0, 2);
        noPair(x, 1);
        ContestRows y = contest(3, 10);
        y.submit(2, 0, 10, 3, false);
        y.submit(0, 0, 12, 3, false);
        y.submit(1, 0, 72, 3, false);
        pair(y, 0, 0, 1, 0, 60);
        pair(y, 1, 0, 2, 0, 2);
        noPair(y, 2);
    }

    private static void evenSets() {
        ContestRows x = contest(0, 5, 9, 5, 5, 9, 1);
        int[] three = {2, 0, 2, 0, 1, 1};
        int[] six = {2, 0, 3, 4, 1, 5};
        for (int p = 0; p < 6; p++) {
            due("15 three sets, puzzle " + p, x.even(3, p), three[p]);
            due("15 six sets, puzzle " + p, x.even(6, p), six[p]);
            due("15 one set, puzzle " + p, x.even(1, p), 0);
        }
        // 6 | 5, 6 | 9, 8 | 9, 9 of three | 9 of two.
        due("15 of alike sums the fewest", contest(0, 6, 5, 4, 2, 1, 1).even(2, 5), 1);
        // 6 | 3, 6 | 6, then 6 of one | 6 of two.
        due("15 of alike sums the fewest", contest(0, 3, 3, 3, 3, 6, 1).even(2, 2), 0);
        // 6 | 5, 6 | 8, 8 | 8, both of two.
        due("15 of alike sums and counts the least", contest(0, 6, 5, 3, 2, 1).even(2, 4), 0);
        ContestRows y = contest(0, 1, 3);
        due("15 alone", y.even(2, 0), 1);
        y.puzzle(2);
        due("15 put anew with a third", y.even(2, 0), 1);
        y.puzzle(4);
        due("15 put anew with a fourth", y.even(2, 0), 0);
        int[] badSets = {0, -1, 7, LOW, HIGH};
        for (int sets : badSets) {
            due("15 sets " + sets, x.even(sets, 0), -1);
        }
        int[] badPuzzles = {-1, 6, LOW, HIGH};
        for (int puzzle : badPuzzles) {
            due("15 puzzle " + puzzle, x.even(2, puzzle), -1);
        }
    }

    private static void leastApart() {
        due("16 none", contest(1).apart(), -1);
        due("16 one", contest(0, 37).apart(), 37);
        due("16 two", contest(0, 37, 40).apart(), 3);
        due("16 alike", contest(0, 8, 8).apart(), 0);
        due("16 not as even puts them", contest(0, 8, 7, 6, 5, 4).apart(), 0);
        due("16 one above all", contest(0, 100, 1, 2, 3).apart(), 94);
        due("16 odd", contest(0, 1, 1, 1).apart(), 1);
        ContestRows x = new ContestRows();
        for (int i = 0; i < 20; i++) {
            x.puzzle(100);
            due("16 hundreds", x.apart(), i % 2 == 0 ? 100 : 0);
        }
    }

    public static void main(String[] args) {
        newObject();
        puzzles();
        persons();
        units();
        rules();
        starts();
        submissions();
        corrections();
        lateOnes();
        scores();
        pointsOfOne();
        places();
        sharing();
        suspiciousPairs();
        noPairs();
        pairsByB();
        evenSets();
        leastApart();
        System.out.println(wrong == 0 ? "all answers are as due" : wrong + " answers are not as due");
        if (wrong != 0) {
            System.exit(1);
        }
    }
}
