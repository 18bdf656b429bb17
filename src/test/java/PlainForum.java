import java.math.BigInteger;
import java.util.ArrayList;
import java.util.Arrays;
import java.util.Comparator;
import java.util.HashMap;
import java.util.HashSet;
import java.util.List;
import java.util.Map;
import java.util.Set;
import java.util.TreeSet;

/**
 * The document told a second time, with big numbers, sets and sorting, and by other ways than the class
 * takes, so that the two do not err alike.
 */
final class PlainForum implements Forum {
    private static final int NONE = -1;

    private static final class Entry {
        int number;
        int author;
        int hour;
        Entry answers;
        boolean pinned;
        boolean hidden;
        boolean wasHidden;
        final Map<Integer, Integer> marks = new HashMap<>();
        final Set<Integer> voters = new HashSet<>();
        List<Integer> jury = List.of();
        final Map<Integer, Boolean> said = new HashMap<>();

        Entry root() {
            return answers == null ? this : answers.root();
        }

        int count(int how) {
            return (int) marks.values().stream().filter(m -> m == how).count();
        }

        int standing() {
            if (jury.isEmpty()) {
                return 0;
            }
            long yes = said.values().stream().filter(stays -> stays).count();
            return said.size() - yes >= 2 ? 2 : yes >= 2 ? 3 : 1;
        }
    }

    private int people;
    private int clock;
    private int[] rules = {30, 100, 2, 0, 1};
    private final List<Entry> posts = new ArrayList<>();
    /** Null when a call may have changed it: to find it out again at each question would take too long. */
    private List<Integer> wholeList;

    private boolean isPerson(int p) {
        return 0 <= p && p < people;
    }

    private Entry entry(int post) {
        return 0 <= post && post < posts.size() ? posts.get(post) : null;
    }

    @Override
    public int person() {
        wholeList = null;
        return people == 6 ? NONE : people++;
    }

    @Override
    public boolean hour(int h) {
        wholeList = null;
        boolean good = 0 <= h && h <= 10000 && h >= clock;
        clock = good ? h : clock;
        return good;
    }

    @Override
    public boolean rules(int damp, int risk, int bound, int quota, int ageing) {
        int[] told = {damp, risk, bound, quota, ageing};
        int[] most = {50, 999, 40, 20, 100};
        for (int k = 0; k < 5; k++) {
            if (told[k] < 0 || told[k] > most[k]) {
                return false;
            }
        }
        rules = told;
        wholeList = null;
        return true;
    }

    @Override
    public int post(int author, int answers) {
        wholeList = null;
        if (!isPerson(author) || posts.size() == 40 || (answers != NONE && entry(answers) == null)) {
            return NONE;
        }
        Entry e = new Entry();
        e.number = posts.size();
        e.author = author;
        e.hour = clock;
        e.answers = entry(answers);
        posts.add(e);
        return e.number;
    }

    @Override
    public boolean mark(int person, int post, int how) {
        wholeList = null;
        Entry e = entry(post);
        if (e == null || !isPerson(person) || e.author == person || Math.abs((long) how) > 1) {
            return false;
        }
        e.marks.remove(person);
        if (how != 0) {
            e.marks.put(person, how);
        }
        return true;
    }

    @Override
    public int takeBack(int person) {
        wholeList = null;
        if (!isPerson(person)) {
            return NONE;
        }
        int count = 0;
        for (Entry e : posts) {
            count += e.marks.remove(person) == null ? 0 : 1;
        }
        return count;
    }

    @Override
    public boolean pin(int post, boolean it) {
        wholeList = null;
        if (entry(post) != null) {
            entry(post).pinned = it;
        }
        return entry(post) != null;
    }

    private boolean likes(int q, int p) {
        return posts.stream().anyMatch(e -> e.author == p && e.marks.getOrDefault(q, 0) == 1);
    }

    private int likeCount(int q) {
        int count = 0;
        for (int p = 0; p < people; p++) {
            count += likes(q, p) ? 1 : 0;
        }
        return Math.max(1, count);
    }

    private BigInteger[][] table() {
        BigInteger[][] table = new BigInteger[people][people];
        for (int p = 0; p < people; p++) {
            for (int q = 0; q < people; q++) {
                table[p][q] = BigInteger.valueOf(p == q ? 100L * likeCount(p) : likes(q, p) ? -rules[0] : 0);
            }
        }
        return table;
    }

    /** By elimination without fractions: each division leaves nothing over. */
    private static BigInteger determinant(BigInteger[][] a) {
        BigInteger before = BigInteger.ONE;
        BigInteger sign = BigInteger.ONE;
        for (int k = 0; k + 1 < a.length; k++) {
            int pivot = k;
            while (pivot < a.length && a[pivot][k].signum() == 0) {
                pivot++;
            }
            if (pivot == a.length) {
                return BigInteger.ZERO;
            }
            if (pivot != k) {
                BigInteger[] row = a[k];
                a[k] = a[pivot];
                a[pivot] = row;
                sign = sign.negate();
            }
            for (int i = k + 1; i < a.length; i++) {
                for (int j = k + 1; j < a.length; j++) {
                    a[i][j] = a[i][j].multiply(a[k][k]).subtract(a[i][k].multiply(a[k][j])).divide(before);
                }
            }
            before = a[k][k];
        }
        return a.length == 0 ? sign : sign.multiply(a[a.length - 1][a.length - 1]);
    }

    private BigInteger bigLower() {
        return determinant(table());
    }

    private BigInteger bigUpper(int person) {
        BigInteger[][] table = table();
        for (BigInteger[] row : table) {
            row[person] = BigInteger.valueOf(100);
        }
        return determinant(table).multiply(BigInteger.valueOf(likeCount(person)));
    }

    @Override
    public long lower() {
        return bigLower().longValueExact();
    }

    @Override
    public long upper(int person) {
        return isPerson(person) ? bigUpper(person).longValueExact() : NONE;
    }

    @Override
    public long weight(int post) {
        Entry e = entry(post);
        return e == null ? 0 : weightOf(e).longValueExact();
    }

    private BigInteger weightOf(Entry e) {
        BigInteger sum = BigInteger.ZERO;
        for (Map.Entry<Integer, Integer> mark : e.marks.entrySet()) {
            sum = sum.add(bigUpper(mark.getKey()).multiply(BigInteger.valueOf(mark.getValue())));
        }
        return sum;
    }

    /** Whether w(p) = 1 + DAMP / 100 times the sum of w(q) / (LIKES of q) holds for all, w being UPPER / LOWER. */
    boolean worthsHold(long lower, long[] uppers) {
        for (int p = 0; p < people; p++) {
            // both sides times 100 * 60 * LOWER; 60 is a multiple of every count of likes
            BigInteger right = BigInteger.valueOf(lower).multiply(BigInteger.valueOf(6000));
            for (int q = 0; q < people; q++) {
                if (likes(q, p)) {
                    right = right.add(BigInteger.valueOf(uppers[q]).multiply(
                            BigInteger.valueOf(rules[0] * 60L / likeCount(q))));
                }
            }
            if (!right.equals(BigInteger.valueOf(uppers[p]).multiply(BigInteger.valueOf(6000)))) {
                return false;
            }
        }
        return true;
    }

    @Override
    public int sure(int u, int d) {
        if (u < 0 || d < 0 || (long) u + d > 6) {
            return NONE;
        }
        int greatest = 0;
        for (int h = 0; h <= 100 && u + d > 0; h++) {
            BigInteger chance = chance(u, u + d, h).multiply(BigInteger.valueOf(1000));
            if (chance.compareTo(BigInteger.valueOf(rules[1]).multiply(BigInteger.valueOf(100).pow(u + d))) <= 0) {
                greatest = h;
            }
        }
        return greatest;
    }

    /** u or more of n: each of the 2^n ways that n marks can fall is weighed by itself. */
    private static BigInteger chance(int u, int n, int h) {
        BigInteger sum = BigInteger.ZERO;
        for (int way = 0; way < 1 << n; way++) {
            int ups = Integer.bitCount(way);
            if (ups >= u) {
                sum = sum.add(BigInteger.valueOf(h).pow(ups).multiply(BigInteger.valueOf(100 - h).pow(n - ups)));
            }
        }
        return sum;
    }

    private int greatness(Entry e) {
        return sure(e.count(1), e.count(-1)) - rules[4] * ((clock - e.hour) / 24);
    }

    @Override
    public int postOf(int post, int what) {
        Entry e = entry(post);
        if (e == null) {
            return NONE;
        }
        return switch (what) {
            case 0 -> e.author;
            case 1 -> e.hour;
            case 2 -> e.answers == null ? NONE : e.answers.number;
            case 3 -> e.root().number;
            case 4 -> e.count(1);
            case 5 -> e.count(-1);
            case 6 -> sure(e.count(1), e.count(-1));
            case 7 -> e.pinned ? 1 : 0;
            case 8 -> e.hidden ? 1 : 0;
            case 9 -> e.voters.size();
            case 10 -> e.standing();
            case 11 -> greatness(e);
            case 20, 21, 22 -> at(e.jury, what - 20);
            default -> NONE;
        };
    }

    @Override
    public boolean hide(int person, int post) {
        wholeList = null;
        Entry e = entry(post);
        if (e == null || !isPerson(person) || e.author == person || e.wasHidden || !e.voters.add(person)) {
            return false;
        }
        BigInteger sum = BigInteger.ZERO;
        for (int voter : e.voters) {
            sum = sum.add(bigUpper(voter));
        }
        e.hidden = sum.compareTo(bigLower().multiply(BigInteger.valueOf(rules[2]))) >= 0;
        e.wasHidden = e.hidden;
        return true;
    }

    @Override
    public int appeal(int post, int seed) {
        Entry e = entry(post);
        if (e == null || !e.hidden || !e.jury.isEmpty()) {
            return NONE;
        }
        Set<Integer> pool = new TreeSet<>();
        for (int p = 0; p < people; p++) {
            pool.add(p);
        }
        pool.remove(e.author);
        pool.removeAll(e.voters);
        for (Entry other : posts) {
            if (other.root() == e.root()) {
                pool.remove(other.author);
                pool.removeAll(other.marks.keySet());
            }
        }
        if (pool.size() < 3) {
            return NONE;
        }
        List<Integer> left = new ArrayList<>(pool);
        List<Integer> jury = new ArrayList<>();
        long s = seed;
        while (jury.size() < 3) {
            s = (s * 1103515245L + 12345L) & 0xffffffffL;
            jury.add(left.remove((int) ((s >> 16) % left.size())));
        }
        e.jury = jury;
        return jury.get(0);
    }

    @Override
    public int say(int post, int person, boolean stays) {
        wholeList = null;
        Entry e = entry(post);
        if (e == null || e.standing() != 1 || !e.jury.contains(person) || e.said.containsKey(person)) {
            return NONE;
        }
        e.said.put(person, stays);
        e.hidden = e.standing() != 2;
        return e.standing();
    }

    /** THE LIST, from two sorted rows: the best and the newest ones. */
    private List<Integer> newList() {
        List<Integer> whole = new ArrayList<>();
        List<Entry> best = new ArrayList<>();
        for (Entry e : posts) {
            if (!e.hidden && e.pinned) {
                whole.add(e.number);
            } else if (!e.hidden) {
                best.add(e);
            }
        }
        List<Entry> newest = new ArrayList<>(best);
        newest.sort(Comparator.<Entry>comparingInt(e -> e.hour).thenComparingInt(e -> e.number).reversed());
        Map<Entry, Integer> greatness = new HashMap<>();
        Map<Entry, BigInteger> weight = new HashMap<>();
        for (Entry e : best) {
            greatness.put(e, greatness(e));
            weight.put(e, weightOf(e));
        }
        best.sort(Comparator.<Entry, Integer>comparing(greatness::get).thenComparing(weight::get).reversed());
        for (int place = 1; !best.isEmpty(); place++) {
            Entry next = (rules[3] != 0 && place % rules[3] == 0 ? newest : best).get(0);
            best.remove(next);
            newest.remove(next);
            whole.add(next.number);
        }
        return whole;
    }

    @Override
    public int list() {
        return (int) posts.stream().filter(e -> !e.hidden).count();
    }

    @Override
    public int listed(int i) {
        if (wholeList == null) {
            wholeList = newList();
        }
        return at(wholeList, i);
    }

    @Override
    public int tree(int root, int i) {
        List<Integer> whole = new ArrayList<>();
        Entry e = entry(root);
        if (e != null && e.answers == null) {
            flatten(e, whole);
        }
        return at(whole, i);
    }

    private void flatten(Entry e, List<Integer> whole) {
        whole.add(e.number);
        for (Entry other : posts) {
            if (other.answers == e) {
                flatten(other, whole);
            }
        }
    }

    private static int at(List<Integer> whole, int i) {
        return i >= 0 && i < whole.size() ? whole.get(i) : NONE;
    }

    @Override
    public int about(int what) {
        int[] all = Arrays.copyOf(new int[] {people, posts.size(), clock}, 8);
        System.arraycopy(rules, 0, all, 3, 5);
        return what >= 0 && what < 8 ? all[what] : NONE;
    }
}
