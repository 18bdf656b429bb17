import java.util.Arrays;

/**
 * A forum that puts its posts in order by marks and by the worths of those who gave them.
 *
 * <p>There are so few people that a set of them is an int with a bit for each number: no call has to
 * make rows of people, and what one object needs is made once.
 */
public final class ForumWeights {
    /** None. */
    public static final int NONE = -1;

    private static final int MOST_PEOPLE = 6;
    private static final int MOST_POSTS = 40;
    private static final int MOST_MARKS = 6;
    private static final int LAST_HOUR = 10000;
    private static final int HOURS_OF_A_DAY = 24;
    private static final int HUNDRED = 100;
    private static final int THOUSAND = 1000;

    private static final int MOST_DAMP = 50;
    private static final int MOST_RISK = 999;
    private static final int MOST_BOUND = 40;
    private static final int MOST_QUOTA = 20;
    private static final int MOST_AGEING = 100;

    private static final int JURORS = 3;
    private static final int MAJORITY = 2;
    private static final int FIRST_OF_JURY = 20;
    private static final int SEED_FACTOR = 1103515245;
    private static final int SEED_STEP = 12345;
    private static final int SEED_SHIFT = 16;

    private static final int NO_APPEAL = 0;
    private static final int GOES_ON = 1;
    private static final int GIVEN_BACK = 2;
    private static final int KEPT_HIDDEN = 3;

    private final Rules told;
    private final Board board;
    private final Worths worths;
    private final Ranking ranking;
    private int people;
    private int clock;

    public ForumWeights() {
        told = new Rules();
        board = new Board();
        worths = new Worths();
        ranking = new Ranking();
        people = 0;
        clock = 0;
    }

    public int person() {
        if (people >= MOST_PEOPLE) {
            return NONE;
        }
        people++;
        return people - 1;
    }

    public boolean hour(int h) {
        if (h < clock || h > LAST_HOUR) {
            return false;
        }
        clock = h;
        return true;
    }

    public boolean rules(int damp, int risk, int bound, int quota, int ageing) {
        boolean allowed = isWithin(damp, MOST_DAMP)
                && isWithin(risk, MOST_RISK)
                && isWithin(bound, MOST_BOUND)
                && isWithin(quota, MOST_QUOTA)
                && isWithin(ageing, MOST_AGEING);
        if (!allowed) {
            return false;
        }
        told.damp = damp;
        told.risk = risk;
        told.bound = bound;
        told.quota = quota;
        told.ageing = ageing;
        return true;
    }

    public int post(int author, int answers) {
        if (!isPerson(author)) {
            return NONE;
        }
        return board.add(author, clock, answers);
    }

    public boolean mark(int person, int post, int how) {
        Post marked = board.at(post);
        if (marked == null || !isPerson(person) || marked.author == person) {
            return false;
        }
        if (how < -1 || how > 1) {
            return false;
        }
        marked.setMark(person, how);
        return true;
    }

    public int takeBack(int person) {
        if (!isPerson(person)) {
            return NONE;
        }
        int taken = 0;
        for (int number = 0; number < board.count; number++) {
            Post marked = board.at(number);
            if (marked != null && isIn(marked.markers(), person)) {
                marked.setMark(person, 0);
                taken++;
            }
        }
        return taken;
    }

    public boolean pin(int post, boolean it) {
        Post pinned = board.at(post);
        if (pinned == null) {
            return false;
        }
        pinned.pinned = it;
        return true;
    }

    public long lower() {
        worths.solve(board, people, told.damp);
        return worths.lowerPart;
    }

    public long upper(int person) {
        if (!isPerson(person)) {
            return NONE;
        }
        worths.solve(board, people, told.damp);
        return worths.uppersOf(setOf(person));
    }

    public long weight(int post) {
        Post weighed = board.at(post);
        if (weighed == null) {
            return 0;
        }
        worths.solve(board, people, told.damp);
        return worths.weightOf(weighed);
    }

    public int postOf(int post, int what) {
        Post asked = board.at(post);
        if (asked == null) {
            return NONE;
        }
        switch (what) {
            case 0:
                return asked.author;
            case 1:
                return asked.written;
            case 2:
                return asked.answered;
            case 3:
                return asked.root;
            case 4:
                return Integer.bitCount(asked.ups);
            case 5:
                return Integer.bitCount(asked.downs);
            case 6:
                return asked.sureness(told.risk);
            case 7:
                return asked.pinned ? 1 : 0;
            case 8:
                return asked.hidden ? 1 : 0;
            case 9:
                return Integer.bitCount(asked.voters);
            case 10:
                return asked.appealed == null ? NO_APPEAL : asked.appealed.standing();
            case 11:
                return asked.greatness(told, clock);
            default:
                return jurorOf(asked, what);
        }
    }

    public int sure(int u, int d) {
        if (!isWithin(u, MOST_MARKS) || !isWithin(d, MOST_MARKS - u)) {
            return NONE;
        }
        return surest(u, u + d, told.risk);
    }

    public boolean hide(int person, int post) {
        Post voted = board.at(post);
        if (voted == null || !isPerson(person) || voted.author == person) {
            return false;
        }
        if (voted.everHidden || isIn(voted.voters, person)) {
            return false;
        }
        voted.voters |= setOf(person);
        worths.solve(board, people, told.damp);
        if (worths.uppersOf(voted.voters) >= told.bound * worths.lowerPart) {
            voted.hidden = true;
            voted.everHidden = true;
        }
        return true;
    }

    public int appeal(int post, int seed) {
        Post hidden = board.at(post);
        if (hidden == null || !hidden.hidden || hidden.appealed != null) {
            return NONE;
        }
        int everybody = setOf(people) - 1;
        int pool = everybody & ~(hidden.voters | board.peopleOfTree(hidden.root));
        if (Integer.bitCount(pool) < JURORS) {
            return NONE;
        }
        hidden.appealed = new Appeal(pool, seed);
        return hidden.appealed.juror(0);
    }

    public int say(int post, int person, boolean stays) {
        Post judged = board.at(post);
        if (judged == null || judged.appealed == null || !judged.appealed.awaits(person)) {
            return NONE;
        }
        judged.appealed.hear(person, stays);
        int standing = judged.appealed.standing();
        if (standing == GIVEN_BACK) {
            judged.hidden = false;
        }
        return standing;
    }

    public int list() {
        return board.countShown();
    }

    public int listed(int i) {
        if (i < 0 || i >= board.countShown()) {
            return NONE;
        }
        worths.solve(board, people, told.damp);
        ranking.gather(board, told, worths, clock);
        ranking.arrange(told.quota);
        return ranking.numberAt(i);
    }

    public int tree(int root, int i) {
        Post first = board.at(root);
        if (first == null || first.answered != NONE) {
            return NONE;
        }
        return board.flattened(root, i);
    }

    public int about(int what) {
        switch (what) {
            case 0:
                return people;
            case 1:
                return board.count;
            case 2:
                return clock;
            case 3:
                return told.damp;
            case 4:
                return told.risk;
            case 5:
                return told.bound;
            case 6:
                return told.quota;
            case 7:
                return told.ageing;
            default:
                return NONE;
        }
    }

    private boolean isPerson(int number) {
        return number >= 0 && number < people;
    }

    private static int jurorOf(Post asked, int what) {
        if (asked.appealed == null || what < FIRST_OF_JURY) {
            return NONE;
        }
        return asked.appealed.juror(what - FIRST_OF_JURY);
    }

    private static boolean isWithin(int value, int most) {
        return value >= 0 && value <= most;
    }

    private static int setOf(int person) {
        return 1 << person;
    }

    private static boolean isIn(int set, int person) {
        return person >= 0 && person < MOST_PEOPLE && (set & setOf(person)) != 0;
    }

    /**
     * SURE. The chance of so many ups rises with the hundredths, so the range can be halved; 0 is the
     * answer too if no hundredths hold, and is therefore never tried.
     */
    private static int surest(int ups, int marks, int risk) {
        int holds = 0;
        int fails = HUNDRED + 1;
        for (int step = 0; step < HUNDRED && fails - holds > 1; step++) {
            int middle = (holds + fails) / 2;
            if (chanceOf(ups, marks, middle) * THOUSAND <= risk * power(HUNDRED, marks)) {
                holds = middle;
            } else {
                fails = middle;
            }
        }
        return holds;
    }

    /** The chance of this many ups or more, times 100 to the power of the marks. */
    private static long chanceOf(int ups, int marks, int hundredths) {
        long sum = 0;
        for (int j = ups; j <= marks; j++) {
            sum += choose(marks, j) * power(hundredths, j) * power(HUNDRED - hundredths, marks - j);
        }
        return sum;
    }

    private static long choose(int all, int some) {
        long ways = 1;
        for (int k = 1; k <= some; k++) {
            ways = ways * (all - some + k) / k;
        }
        return ways;
    }

    private static long power(int base, int exponent) {
        long product = 1;
        for (int k = 0; k < exponent; k++) {
            product *= base;
        }
        return product;
    }

    private static final class Rules {
        int damp = 30;
        int risk = 100;
        int bound = 2;
        int quota = 0;
        int ageing = 1;
    }

    private static final class Post {
        final int author;
        final int written;
        final int answered;
        final int root;
        int ups;
        int downs;
        int voters;
        boolean pinned;
        boolean hidden;
        boolean everHidden;
        Appeal appealed;

        Post(int author, int written, int answered, int root) {
            this.author = author;
            this.written = written;
            this.answered = answered;
            this.root = root;
        }

        void setMark(int person, int how) {
            int one = setOf(person);
            ups = how > 0 ? ups | one : ups & ~one;
            downs = how < 0 ? downs | one : downs & ~one;
        }

        int markers() {
            return ups | downs;
        }

        int sureness(int risk) {
            return surest(Integer.bitCount(ups), Integer.bitCount(markers()), risk);
        }

        int greatness(Rules told, int clock) {
            int days = (clock - written) / HOURS_OF_A_DAY;
            return sureness(told.risk) - told.ageing * days;
        }
    }

    /** An appeal from the drawing of its jury on; it is kept when it is over, since it may be asked for. */
    private static final class Appeal {
        private final int[] jury = new int[JURORS];
        private int spoken;
        private int noes;

        Appeal(int pool, int seed) {
            int s = seed;
            int left = pool;
            for (int i = 0; i < JURORS; i++) {
                s = s * SEED_FACTOR + SEED_STEP;
                int drawn = drawnFrom(left, s >>> SEED_SHIFT);
                jury[i] = drawn;
                left &= ~setOf(drawn);
            }
        }

        private static int drawnFrom(int left, int chance) {
            int many = Integer.bitCount(left);
            if (many == 0) {
                return NONE;
            }
            int before = chance % many;
            for (int person = 0; person < MOST_PEOPLE; person++) {
                if (isIn(left, person)) {
                    if (before == 0) {
                        return person;
                    }
                    before--;
                }
            }
            return NONE;
        }

        int juror(int i) {
            return i >= 0 && i < jury.length ? jury[i] : NONE;
        }

        boolean awaits(int person) {
            return standing() == GOES_ON && isJuror(person) && !isIn(spoken, person);
        }

        private boolean isJuror(int person) {
            for (int i = 0; i < jury.length; i++) {
                if (jury[i] == person) {
                    return true;
                }
            }
            return false;
        }

        void hear(int person, boolean stays) {
            int one = setOf(person);
            spoken |= one;
            if (!stays) {
                noes |= one;
            }
        }

        int standing() {
            if (Integer.bitCount(noes) >= MAJORITY) {
                return GIVEN_BACK;
            }
            return Integer.bitCount(spoken & ~noes) >= MAJORITY ? KEPT_HIDDEN : GOES_ON;
        }
    }

    private static final class Board {
        private final Post[] posts = new Post[MOST_POSTS];
        private final int[] ahead = new int[MOST_POSTS];
        int count;

        /** The post of a number, or null if there is none such. */
        Post at(int number) {
            return number >= 0 && number < count && number < posts.length ? posts[number] : null;
        }

        int add(int author, int written, int answered) {
            Post parent = at(answered);
            if (count >= posts.length || (answered != NONE && parent == null)) {
                return NONE;
            }
            int root = parent == null ? count : parent.root;
            posts[count] = new Post(author, written, answered, root);
            count++;
            return count - 1;
        }

        int countShown() {
            int shown = 0;
            for (int number = 0; number < count; number++) {
                Post one = at(number);
                if (one != null && !one.hidden) {
                    shown++;
                }
            }
            return shown;
        }

        /** Those who wrote, or have a mark on, a post of the tree. */
        int peopleOfTree(int root) {
            int found = 0;
            for (int number = 0; number < count; number++) {
                Post one = at(number);
                if (one != null && one.root == root) {
                    found |= setOf(one.author) | one.markers();
                }
            }
            return found;
        }

        /** Walks with a stack of its own, for a tree may be as deep as there are posts. */
        int flattened(int root, int i) {
            ahead[0] = root;
            int waiting = 1;
            for (int place = 0; place < count && waiting > 0; place++) {
                waiting--;
                int number = ahead[waiting];
                if (place == i) {
                    return number;
                }
                waiting = stackAnswers(number, waiting);
            }
            return NONE;
        }

        /** The last answer goes in first, so that the first one comes out first. */
        private int stackAnswers(int number, int waiting) {
            int top = waiting;
            for (int later = count - 1; later > number; later--) {
                Post one = at(later);
                if (one != null && one.answered == number && top >= 0 && top < ahead.length) {
                    ahead[top] = later;
                    top++;
                }
            }
            return top;
        }
    }

    /** The worths of all people over one lower part; they hold until marks, people or DAMP change. */
    private static final class Worths {
        private final int[] liked = new int[MOST_PEOPLE];
        private final long[] uppers = new long[MOST_PEOPLE];
        private final long[] minors = new long[1 << MOST_PEOPLE];
        private int size;
        private int damp;
        long lowerPart;

        void solve(Board board, int people, int dampNow) {
            size = Math.min(people, MOST_PEOPLE);
            damp = dampNow;
            readLikes(board);
            lowerPart = determinant(NONE);
            for (int person = 0; person < size; person++) {
                uppers[person] = likes(person) * determinant(person);
            }
        }

        long uppersOf(int set) {
            long sum = 0;
            for (int person = 0; person < size; person++) {
                if (isIn(set, person)) {
                    sum += uppers[person];
                }
            }
            return sum;
        }

        long weightOf(Post weighed) {
            return uppersOf(weighed.ups) - uppersOf(weighed.downs);
        }

        private void readLikes(Board board) {
            Arrays.fill(liked, 0);
            for (int number = 0; number < board.count; number++) {
                Post marked = board.at(number);
                if (marked != null) {
                    addLikes(marked);
                }
            }
        }

        private void addLikes(Post marked) {
            for (int person = 0; person < size; person++) {
                if (isIn(marked.ups, person)) {
                    liked[person] |= setOf(marked.author);
                }
            }
        }

        private long likes(int person) {
            return Math.max(1, Integer.bitCount(liked[person]));
        }

        /**
         * The determinant of the table with 100 in all of one column (NONE: in none). It is built up
         * from those of the first rows on ever more columns: without a division, and with no number
         * on the way that a long can't hold.
         */
        private long determinant(int hundreds) {
            int all = (1 << size) - 1;
            minors[0] = 1;
            for (int columns = 1; columns <= all; columns++) {
                minors[columns] = byLastRow(columns, hundreds);
            }
            return minors[all];
        }

        private long byLastRow(int columns, int hundreds) {
            int row = Integer.bitCount(columns) - 1;
            long sum = 0;
            long sign = 1;
            for (int column = size - 1; column >= 0; column--) {
                if (isIn(columns, column)) {
                    long rest = minors[columns & ~setOf(column)];
                    sum += sign * entry(row, column, hundreds) * rest;
                    sign = -sign;
                }
            }
            return sum;
        }

        private long entry(int row, int column, int hundreds) {
            if (column == hundreds) {
                return HUNDRED;
            }
            if (row == column) {
                return HUNDRED * likes(row);
            }
            return isIn(liked[column], row) ? -damp : 0;
        }
    }

    /** Puts the shown posts in order; the rows are kept between calls so that none makes new ones. */
    private static final class Ranking {
        private final int[] order = new int[MOST_POSTS];
        private final boolean[] waits = new boolean[MOST_POSTS];
        private final boolean[] first = new boolean[MOST_POSTS];
        private final int[] greatness = new int[MOST_POSTS];
        private final long[] weights = new long[MOST_POSTS];
        private int many;
        private int waiting;
        private int placed;

        void gather(Board board, Rules told, Worths worths, int clock) {
            many = Math.min(board.count, MOST_POSTS);
            waiting = 0;
            placed = 0;
            for (int number = 0; number < many; number++) {
                Post one = board.at(number);
                waits[number] = one != null && !one.hidden;
                if (one != null && !one.hidden) {
                    waiting++;
                    first[number] = one.pinned;
                    greatness[number] = one.greatness(told, clock);
                    weights[number] = worths.weightOf(one);
                }
            }
        }

        void arrange(int quota) {
            for (int number = 0; number < many; number++) {
                if (waits[number] && first[number]) {
                    place(number);
                }
            }
            for (int place = 1; place <= MOST_POSTS && waiting > 0; place++) {
                boolean isForNewest = quota > 0 && place % quota == 0;
                place(isForNewest ? newest() : best());
            }
        }

        int numberAt(int i) {
            return i >= 0 && i < placed && i < order.length ? order[i] : NONE;
        }

        private void place(int number) {
            if (number >= 0 && number < waits.length && placed < order.length) {
                order[placed] = number;
                placed++;
                waits[number] = false;
                waiting--;
            }
        }

        /** The clock never goes back, so the highest number has the latest hour too. */
        private int newest() {
            for (int number = many - 1; number >= 0; number--) {
                if (waits[number]) {
                    return number;
                }
            }
            return NONE;
        }

        private int best() {
            int found = NONE;
            for (int number = 0; number < many; number++) {
                if (waits[number] && (found == NONE || isBetter(number, found))) {
                    found = number;
                }
            }
            return found;
        }

        /** Of like ones the lower number is met first, and stays. */
        private boolean isBetter(int number, int other) {
            if (greatness[number] != greatness[other]) {
                return greatness[number] > greatness[other];
            }
            return weights[number] > weights[other];
        }
    }
}
