/**
 * Contests of puzzles: rules told as a text, starts, submissions by the second, points, places,
 * suspicious pairs, and puzzles put into sets by their grades.
 *
 * <p>No answer about points is kept: corrections, new rules and new starts change old ones, so each
 * call works them out anew from the submissions, in rows that are made once.
 */
public final class ContestRows {
    private static final int NONE = -1;
    private static final int MOST_PUZZLES = 20;
    private static final int MOST_PERSONS = 20;
    private static final int MOST_SUBMISSIONS = 300;
    private static final int LAST_SECOND = 1_000_000;
    private static final int SUSPICIOUS_SECONDS = 60;

    private final Puzzles puzzles;
    private final Persons persons;
    private final Submissions submissions;
    private final RuleText text;
    private final Rules inForce;

    /** Of the person that is worked out, by puzzles: wrong ones ahead of the first right one. */
    private final int[] wrongs;
    /** Whether the first right one has been met: what comes behind it changes nothing. */
    private final boolean[] settled;
    /** The points, or NONE where none count. */
    private final long[] gained;
    /** Of the submission that is compared, by persons: the first alike one, or NONE. */
    private final int[] twins;

    public ContestRows() {
        puzzles = new Puzzles();
        persons = new Persons();
        submissions = new Submissions();
        text = new RuleText();
        inForce = new Rules();
        wrongs = new int[MOST_PUZZLES];
        settled = new boolean[MOST_PUZZLES];
        gained = new long[MOST_PUZZLES];
        twins = new int[MOST_PERSONS];
    }

    public int puzzle(int grade) {
        return puzzles.add(grade);
    }

    public int person() {
        return persons.add();
    }

    public boolean unit(int u) {
        return text.add(u);
    }

    public int rules() {
        int answer = text.read(inForce);
        text.clear();
        return answer;
    }

    public boolean start(int person, int second) {
        if (!persons.has(person) || second < 0 || second > LAST_SECOND) {
            return false;
        }
        if (submissions.anyEarlier(person, second)) {
            return false;
        }
        persons.starts[person] = second;
        return true;
    }

    public int submit(int person, int puzzle, int second, int answer, boolean right) {
        if (!persons.has(person) || !puzzles.has(puzzle) || answer < 0) {
            return NONE;
        }
        int start = persons.starts[person];
        if (start == NONE || second < start || second > LAST_SECOND) {
            return NONE;
        }
        return submissions.add(person, puzzle, second, answer, right);
    }

    public boolean correct(int submission, boolean right) {
        if (!submissions.has(submission) || submissions.rights[submission] == right) {
            return false;
        }
        submissions.rights[submission] = right;
        return true;
    }

    public boolean late(int submission) {
        return submissions.has(submission) && inForce.isLate(secondsFromStart(submission));
    }

    public long score(int person, int what) {
        if (!persons.has(person) || what < 0 || what > 3) {
            return NONE;
        }
        if (what == 3) {
            workOutAll();
            return persons.rankOf(person, inForce.timesPart());
        }
        workOut(person);
        if (what == 0) {
            return persons.scores[person];
        }
        return what == 1 ? persons.times[person] : persons.counts[person];
    }

    public long points(int person, int puzzle) {
        if (!persons.has(person) || !puzzles.has(puzzle)) {
            return NONE;
        }
        workOut(person);
        return gained[puzzle];
    }

    public int place(int k) {
        if (!persons.has(k)) {
            return NONE;
        }
        workOutAll();
        return persons.inPlace(k, inForce.timesPart());
    }

    public boolean shared(int a, int b) {
        if (!persons.has(a) || !persons.has(b)) {
            return false;
        }
        workOut(a);
        workOut(b);
        return persons.alike(a, b, inForce.timesPart());
    }

    public int suspicious(int k, int what) {
        if (k < 0 || what < 0 || what > 3) {
            return NONE;
        }
        int ahead = 0;
        for (int mine = 0; mine < submissions.many; mine++) {
            if (submissions.rights[mine]) {
                continue;
            }
            submissions.findTwins(mine, twins);
            for (int b = submissions.persons[mine] + 1; b < persons.many; b++) {
                if (twins[b] == NONE || submissions.secondsBetween(mine, twins[b]) > SUSPICIOUS_SECONDS) {
                    continue;
                }
                if (ahead == k) {
                    return submissions.tellPair(mine, twins[b], what);
                }
                ahead++;
            }
        }
        return NONE;
    }

    public int even(int sets, int puzzle) {
        if (sets < 1 || sets > Puzzles.MOST_SETS || !puzzles.has(puzzle)) {
            return NONE;
        }
        return puzzles.setOf(puzzle, sets);
    }

    public int apart() {
        return puzzles.leastDifference();
    }

    private int secondsFromStart(int submission) {
        return submissions.seconds[submission] - persons.starts[submissions.persons[submission]];
    }

    private void workOutAll() {
        for (int person = 0; person < persons.many; person++) {
            workOut(person);
        }
    }

    /** Leaves the person's points in gained, and their sums with the persons. */
    private void workOut(int person) {
        for (int puzzle = 0; puzzle < MOST_PUZZLES; puzzle++) {
            wrongs[puzzle] = 0;
            settled[puzzle] = false;
            gained[puzzle] = NONE;
        }
        persons.clearSums(person);
        for (int i = 0; i < submissions.many; i++) {
            int submission = submissions.inTime[i];
            if (submissions.persons[submission] == person) {
                take(person, submission);
            }
        }
    }

    private void take(int person, int submission) {
        int puzzle = submissions.puzzles[submission];
        if (settled[puzzle]) {
            return;
        }
        if (!submissions.rights[submission]) {
            wrongs[puzzle]++;
            return;
        }
        // Late ones settle too: only the first right one may count, and those behind it are later.
        settled[puzzle] = true;
        int seconds = secondsFromStart(submission);
        if (inForce.isLate(seconds)) {
            return;
        }
        gained[puzzle] = inForce.worth(puzzles.grades[puzzle], seconds, wrongs[puzzle]);
        persons.addToSums(person, gained[puzzle], seconds);
    }

    /** The puzzles, with what their sets need. */
    private static final class Puzzles {
        static final int MOST_SETS = 6;
        static final int MOST_GRADE = 100;
        /** The lesser of two sets never has more than half of all grades. */
        static final int MOST_HALF = MOST_PUZZLES * MOST_GRADE / 2;

        final int[] grades = new int[MOST_PUZZLES];
        int many;
        /** Numbers by falling grades, of alike ones by numbers. */
        private final int[] falling = new int[MOST_PUZZLES];
        /** Which sums of grades some of the puzzles have. */
        private final boolean[] reached = new boolean[MOST_HALF + 1];
        private int total;
        private final int[] setSums = new int[MOST_SETS];
        private final int[] setCounts = new int[MOST_SETS];

        boolean has(int puzzle) {
            return puzzle >= 0 && puzzle < many;
        }

        int add(int grade) {
            if (grade < 1 || grade > MOST_GRADE || many >= MOST_PUZZLES) {
                return NONE;
            }
            grades[many] = grade;
            putFalling(many);
            reachWith(grade);
            total += grade;
            many++;
            return many - 1;
        }

        private void putFalling(int puzzle) {
            int at = puzzle;
            while (at > 0 && grades[falling[at - 1]] < grades[puzzle]) {
                falling[at] = falling[at - 1];
                at--;
            }
            falling[at] = puzzle;
        }

        private void reachWith(int grade) {
            reached[0] = true;
            // From above, so that the new grade is used once only.
            for (int sum = MOST_HALF; sum >= grade; sum--) {
                if (reached[sum - grade]) {
                    reached[sum] = true;
                }
            }
        }

        int leastDifference() {
            if (many == 0) {
                return NONE;
            }
            int lesser = total / 2;
            while (lesser > 0 && !reached[lesser]) {
                lesser--;
            }
            return total - 2 * lesser;
        }

        int setOf(int puzzle, int sets) {
            for (int set = 0; set < MOST_SETS; set++) {
                setSums[set] = 0;
                setCounts[set] = 0;
            }
            for (int i = 0; i < many; i++) {
                int next = falling[i];
                int set = leastSet(sets);
                if (next == puzzle) {
                    return set;
                }
                setSums[set] += grades[next];
                setCounts[set]++;
            }
            return NONE;
        }

        private int leastSet(int sets) {
            int least = 0;
            for (int set = 1; set < sets; set++) {
                boolean lessSum = setSums[set] < setSums[least];
                boolean sameSum = setSums[set] == setSums[least];
                if (lessSum || (sameSum && setCounts[set] < setCounts[least])) {
                    least = set;
                }
            }
            return least;
        }
    }

    /** The persons, with the sums that were worked out last. */
    private static final class Persons {
        /** NONE as long as no start has been told. */
        final int[] starts = new int[MOST_PERSONS];
        final long[] scores = new long[MOST_PERSONS];
        final long[] times = new long[MOST_PERSONS];
        final int[] counts = new int[MOST_PERSONS];
        int many;

        boolean has(int person) {
            return person >= 0 && person < many;
        }

        int add() {
            if (many >= MOST_PERSONS) {
                return NONE;
            }
            starts[many] = NONE;
            many++;
            return many - 1;
        }

        void clearSums(int person) {
            scores[person] = 0;
            times[person] = 0;
            counts[person] = 0;
        }

        void addToSums(int person, long points, int seconds) {
            scores[person] += points;
            times[person] += seconds;
            counts[person]++;
        }

        boolean alike(int a, int b, boolean timesPart) {
            return scores[a] == scores[b] && (!timesPart || times[a] == times[b]);
        }

        private boolean isAhead(int a, int b, boolean timesPart) {
            if (scores[a] != scores[b]) {
                return scores[a] > scores[b];
            }
            return timesPart && times[a] < times[b];
        }

        int rankOf(int person, boolean timesPart) {
            int rank = 1;
            for (int other = 0; other < many; other++) {
                if (isAhead(other, person, timesPart)) {
                    rank++;
                }
            }
            return rank;
        }

        int inPlace(int k, boolean timesPart) {
            for (int person = 0; person < many; person++) {
                if (howManyBefore(person, timesPart) == k) {
                    return person;
                }
            }
            return NONE;
        }

        private int howManyBefore(int person, boolean timesPart) {
            int before = rankOf(person, timesPart) - 1;
            for (int other = 0; other < person; other++) {
                if (alike(other, person, timesPart)) {
                    before++;
                }
            }
            return before;
        }
    }

    /** The submissions, by numbers and in time. */
    private static final class Submissions {
        final int[] persons = new int[MOST_SUBMISSIONS];
        final int[] puzzles = new int[MOST_SUBMISSIONS];
        final int[] seconds = new int[MOST_SUBMISSIONS];
        final boolean[] rights = new boolean[MOST_SUBMISSIONS];
        /** Numbers by seconds, of alike ones by numbers. */
        final int[] inTime = new int[MOST_SUBMISSIONS];
        int many;
        private final int[] answers = new int[MOST_SUBMISSIONS];

        boolean has(int submission) {
            return submission >= 0 && submission < many;
        }

        int add(int person, int puzzle, int second, int answer, boolean right) {
            if (many >= MOST_SUBMISSIONS) {
                return NONE;
            }
            persons[many] = person;
            puzzles[many] = puzzle;
            seconds[many] = second;
            answers[many] = answer;
            rights[many] = right;
            putInTime(many);
            many++;
            return many - 1;
        }

        private void putInTime(int submission) {
            int at = submission;
            while (at > 0 && seconds[inTime[at - 1]] > seconds[submission]) {
                inTime[at] = inTime[at - 1];
                at--;
            }
            inTime[at] = submission;
        }

        boolean anyEarlier(int person, int second) {
            for (int i = 0; i < many; i++) {
                if (persons[i] == person && seconds[i] < second) {
                    return true;
                }
            }
            return false;
        }

        /** One walk for all persons: a walk for each would make 300 times 20 times 300 steps a call. */
        void findTwins(int mine, int[] twins) {
            for (int person = 0; person < MOST_PERSONS; person++) {
                twins[person] = NONE;
            }
            for (int i = 0; i < many; i++) {
                if (twins[persons[i]] == NONE && isTwin(mine, i)) {
                    twins[persons[i]] = i;
                }
            }
        }

        private boolean isTwin(int mine, int other) {
            return !rights[other] && puzzles[other] == puzzles[mine] && answers[other] == answers[mine];
        }

        int secondsBetween(int one, int other) {
            return Math.abs(seconds[one] - seconds[other]);
        }

        int tellPair(int mine, int other, int what) {
            switch (what) {
                case 0:
                    return persons[mine];
                case 1:
                    return persons[other];
                case 2:
                    return puzzles[mine];
                default:
                    return secondsBetween(mine, other);
            }
        }
    }

    /** The rules in force, and those that a text tells until it is known to be whole. */
    private static final class Rules {
        static final String LETTERS = "PFWDT";
        static final int P = 0;
        static final int F = 1;
        static final int W = 2;
        static final int D = 3;
        static final int T = 4;

        private final int[] now = {100, 0, 0, 3600, 1};
        private final int[] told = {100, 0, 0, 3600, 1};

        void beginTelling() {
            System.arraycopy(now, 0, told, 0, now.length);
        }

        void tell(int letter, int value) {
            told[letter] = value;
        }

        void endTelling() {
            System.arraycopy(told, 0, now, 0, now.length);
        }

        boolean isLate(int seconds) {
            return seconds > now[D];
        }

        /** Whether times part persons of the same score. */
        boolean timesPart() {
            return now[T] == 1;
        }

        long worth(int grade, int seconds, int wrong) {
            long full = (long) grade * now[P];
            long fallen = (long) grade * now[F] * (seconds / 60);
            long penalty = (long) now[W] * wrong;
            return Math.max(0L, full - fallen - penalty);
        }
    }

    /** The bytes of a text of rules. */
    private static final class RuleText {
        private static final int MOST_UNITS = 100;
        private static final int MOST_DIGITS = 4;

        private final int[] units = new int[MOST_UNITS];
        private int length;

        boolean add(int u) {
            if (u < 0 || u > 255 || length >= MOST_UNITS) {
                return false;
            }
            units[length] = u;
            length++;
            return true;
        }

        void clear() {
            length = 0;
        }

        /** How many rules were told, or -1 less the place of the first byte that may not be there. */
        int read(Rules into) {
            into.beginTelling();
            int many = 0;
            int at = 0;
            while (at < length) {
                int letter = Rules.LETTERS.indexOf((char) units[at]);
                if (letter < 0) {
                    return refusal(at);
                }
                int end = endOfDigits(at + 1);
                if (end == at + 1) {
                    return refusal(end);
                }
                int value = number(at + 1, end);
                // The digit of a wrong T stands ahead of a missing semicolon, so it is told first.
                if (letter == Rules.T && value > 1) {
                    return refusal(end - 1);
                }
                if (end >= length || units[end] != ';') {
                    return refusal(end);
                }
                into.tell(letter, value);
                many++;
                at = end + 1;
            }
            into.endTelling();
            return many;
        }

        private static int refusal(int place) {
            return -1 - place;
        }

        private int endOfDigits(int from) {
            int end = from;
            while (end < length && end < from + MOST_DIGITS && units[end] >= '0' && units[end] <= '9') {
                end++;
            }
            return end;
        }

        private int number(int from, int end) {
            int value = 0;
            for (int i = from; i < end; i++) {
                value = value * 10 + (units[i] - '0');
            }
            return value;
        }
    }
}
