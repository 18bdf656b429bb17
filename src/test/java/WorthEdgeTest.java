import java.math.BigInteger;

/** The boundaries that part II of the document's terms and promises 9, 10, 11 and 13 name: worths and SURE. */
public final class WorthEdgeTest {
    private static final int NONE = ForumWeights.NONE;
    private static final long ALL_HUNDREDS = 1_000_000_000_000L;

    private static final Checks CHECKS = new Checks("WorthEdgeTest");

    private WorthEdgeTest() {
    }

    public static void main(String[] args) {
        lowerOfNobodyIsOne();
        likesAreOneAtLeast();
        likesCountPeopleAndNotPosts();
        likesAreOfMarksUpAlone();
        aLikeGoesOneWay();
        dampNoughtMakesAllAlike();
        dampFiftyIsTheMost();
        dampIsTheOneOfNow();
        aNewPersonWidensTheTable();
        greatestNumbers();
        upperOfThoseWhoAreThere();
        weightIsUpsLessDowns();
        weightOfEveryCount();
        weightOfNoPost();
        sureOfEveryRisk();
        sureIsNotAboveRisk();
        sureAtRiskNought();
        sureIsBelowHundred();
        sureIsNoughtIfNoneHolds();
        sureOfNoMarks();
        sureOfCountsInside();
        sureOfCountsOutside();
        CHECKS.end();
    }

    private static void due(String call, long got, long want) {
        CHECKS.due(call, got, want);
    }

    private static void damp(Forum x, int damp) {
        x.rules(damp, 100, 2, 0, 1);
    }

    private static void uppersAre(String when, Forum x, long lower, long... uppers) {
        due(when + " lower()", x.lower(), lower);
        for (int p = 0; p < uppers.length; p++) {
            due(when + " upper(" + p + ")", x.upper(p), uppers[p]);
        }
        due(when + " upper of the next one", x.upper(uppers.length), NONE);
        due(when + " upper(-1)", x.upper(-1), NONE);
    }

    private static void lowerOfNobodyIsOne() {
        CHECKS.of("Terms II", "LOWER is the determinant of M");
        Forum x = new RealForum();
        uppersAre("nobody:", x, 1);
        x.person();
        uppersAre("one:", x, 100, 100);
        x.post(0, NONE);
        uppersAre("one with a post:", x, 100, 100);
        x.person();
        uppersAre("two:", x, 10000, 10000, 10000);
    }

    /** One person marks a post of each of k others: all worths can be told by hand. */
    private static void likesAreOneAtLeast() {
        CHECKS.of("Terms II", "with L(q) = LIKES of q, 1 at least");
        for (int q = 0; q < 6; q++) {
            for (int k = 0; k <= 5; k++) {
                Forum x = Scene.forumWithAPostEach(6);
                long likes = Math.max(1, k);
                long[] want = new long[6];
                int marked = 0;
                for (int p = 0; p < 6; p++) {
                    boolean isMarked = p != q && marked < k;
                    if (isMarked) {
                        marked++;
                        x.mark(q, p, 1);
                    }
                    want[p] = ALL_HUNDREDS * likes + (isMarked ? ALL_HUNDREDS / 100 * 30 : 0);
                }
                uppersAre(q + " likes " + k + ":", x, ALL_HUNDREDS * likes, want);
            }
        }
    }

    private static void likesCountPeopleAndNotPosts() {
        CHECKS.of("Terms", "LIKES of a person q: how many others have a post that q marked up.");
        Forum x = Scene.forum(3);
        for (int k = 0; k < 3; k++) {
            x.post(1, NONE);
        }
        x.post(2, NONE);
        x.mark(0, 0, 1);
        uppersAre("one post:", x, 1000000, 1000000, 1300000, 1000000);
        x.mark(0, 1, 1);
        uppersAre("two posts of one:", x, 1000000, 1000000, 1300000, 1000000);
        x.mark(0, 2, 1);
        uppersAre("three posts of one:", x, 1000000, 1000000, 1300000, 1000000);
        x.mark(0, 3, 1);
        uppersAre("and one of another:", x, 2000000, 2000000, 2300000, 2300000);
        x.mark(0, 0, 0);
        x.mark(0, 2, -1);
        uppersAre("one post is enough:", x, 2000000, 2000000, 2300000, 2300000);
        x.mark(0, 1, 0);
        uppersAre("none left of the first:", x, 1000000, 1000000, 1000000, 1300000);
        x.takeBack(0);
        uppersAre("all taken back:", x, 1000000, 1000000, 1000000, 1000000);
    }

    private static void likesAreOfMarksUpAlone() {
        CHECKS.of("Terms II", "if q marked a post of p's up, else 0");
        Forum x = Scene.forumWithAPostEach(2);
        x.mark(0, 1, -1);
        x.mark(1, 0, -1);
        uppersAre("down:", x, 10000, 10000, 10000);
        x.mark(0, 1, 1);
        uppersAre("up:", x, 10000, 10000, 13000);
        x.mark(1, 0, 1);
        uppersAre("both up:", x, 9100, 13000, 13000);
        x.mark(0, 1, 0);
        uppersAre("none:", x, 10000, 13000, 10000);
        x.mark(1, 0, -1);
        uppersAre("down again:", x, 10000, 10000, 10000);
    }

    private static void aLikeGoesOneWay() {
        CHECKS.of("Terms II", "M(p, q) = - DAMP if q marked a post of p's up");
        Forum x = Scene.forumWithAPostEach(3);
        x.mark(0, 1, 1);
        x.mark(1, 2, 1);
        // w0 = 1, w1 = 1.3, w2 = 1 + .3 * 1.3
        uppersAre("a chain:", x, 1000000, 1000000, 1300000, 1390000);
        x.mark(0, 2, 1);
        // w0 = 1, w1 = 1.15, w2 = 1 + .15 + .345
        uppersAre("a chain with a short cut:", x, 2000000, 2000000, 2300000, 2990000);
    }

    private static Forum everybodyLikesAll() {
        Forum x = Scene.forumWithAPostEach(6);
        for (int p = 0; p < 6; p++) {
            for (int q = 0; q < 6; q++) {
                x.mark(q, p, 1);
            }
        }
        return x;
    }

    private static void dampNoughtMakesAllAlike() {
        CHECKS.of("Terms II", "DAMP: 0 .. 50.");
        Forum x = everybodyLikesAll();
        damp(x, 0);
        long want = 500L * 500 * 500 * 500 * 500 * 500;
        uppersAre("DAMP 0:", x, want, want, want, want, want, want, want);
        damp(x, 1);
        long lower = 501L * 501 * 501 * 501 * 501 * 495;
        due("DAMP 1: lower()", x.lower(), lower);
        due("DAMP 1: upper(3)", x.upper(3) * 99, lower * 100);
    }

    private static void dampFiftyIsTheMost() {
        CHECKS.of("Terms II", "DAMP: 0 .. 50.");
        Forum x = everybodyLikesAll();
        damp(x, 50);
        long lower = 550L * 550 * 550 * 550 * 550 * 250;
        uppersAre("DAMP 50:", x, lower, 2 * lower, 2 * lower, 2 * lower, 2 * lower, 2 * lower, 2 * lower);
        damp(x, 51);
        due("DAMP 51 is refused", x.lower(), lower);
        damp(x, -1);
        due("DAMP -1 is refused", x.lower(), lower);
        Forum pair = Scene.forumWithAPostEach(2);
        damp(pair, 50);
        pair.mark(0, 1, 1);
        pair.mark(1, 0, 1);
        uppersAre("a pair at DAMP 50:", pair, 7500, 15000, 15000);
    }

    private static void dampIsTheOneOfNow() {
        CHECKS.of("Promise 9", "LOWER.");
        Forum x = Scene.forumWithAPostEach(2);
        x.mark(0, 1, 1);
        x.mark(1, 0, 1);
        for (int damp = 0; damp <= 50; damp++) {
            damp(x, damp);
            due("lower() at DAMP " + damp, x.lower(), 10000 - damp * damp);
            due("upper(0) at DAMP " + damp, x.upper(0), 10000 + 100 * damp);
        }
    }

    private static void aNewPersonWidensTheTable() {
        CHECKS.of("Promise 10", "UPPER of a person. NONE: there is none such.");
        Forum x = Scene.forumWithAPostEach(2);
        x.mark(0, 1, 1);
        long lower = 10000;
        for (int people = 2; people < 6; people++) {
            due("lower() of " + people, x.lower(), lower);
            due("upper(1) of " + people, x.upper(1), lower / 10 * 13);
            due("upper of the next one", x.upper(people), NONE);
            x.person();
            lower *= 100;
            due("upper of the new one", x.upper(people), lower);
        }
    }

    /** These are beyond what an int, and the last ones beyond what a double, tells apart. */
    private static void greatestNumbers() {
        CHECKS.of("Promise 11", "WEIGHT of a post.");
        Forum x = everybodyLikesAll();
        damp(x, 0);
        due("the greatest LOWER", x.lower(), 15_625_000_000_000_000L);
        due("five of the greatest up", x.weight(0), 78_125_000_000_000_000L);
        damp(x, 50);
        due("five of twice LOWER up", x.weight(0), 10 * 550L * 550 * 550 * 550 * 550 * 250);
        damp(x, 7);
        long lower = 507L * 507 * 507 * 507 * 507 * 465;
        due("LOWER at DAMP 7", x.lower(), lower);
        due("UPPER at DAMP 7", x.upper(0), lower / 93 * 100);
        due("five up at DAMP 7", x.weight(5), 5 * (lower / 93 * 100));
        Forum down = Scene.forumWithAPostEach(6);
        damp(down, 0);
        for (int p = 0; p < 5; p++) {
            for (int post = 0; post < 5; post++) {
                down.mark(p, post, 1);
            }
            down.mark(p, 5, -1);
        }
        long fours = 400L * 400 * 400 * 400 * 400 * 100;
        due("LOWER of five who like four", down.lower(), fours);
        due("five down", down.weight(5), -5 * fours);
    }

    private static void upperOfThoseWhoAreThere() {
        CHECKS.of("Promise 10", "NONE: there is none such.");
        for (int people = 0; people <= 6; people++) {
            Forum x = Scene.forum(people);
            for (int p = -1; p <= 7; p++) {
                boolean isThere = p >= 0 && p < people;
                due("upper(" + p + ") of " + people, x.upper(p), isThere ? x.lower() : NONE);
            }
        }
    }

    private static void weightIsUpsLessDowns() {
        CHECKS.of("Terms II", "the sum of UPPERS of those who marked it up less that of those who marked it down.");
        Forum x = Scene.forumWithAPostEach(4);
        due("no marks", x.weight(0), 0);
        x.mark(1, 0, 1);
        due("one up", x.weight(0), 100_000_000);
        x.mark(2, 0, -1);
        due("one up, one down", x.weight(0), 0);
        x.mark(3, 0, -1);
        due("one up, two down", x.weight(0), -100_000_000);
        x.mark(1, 0, 0);
        due("two down", x.weight(0), -200_000_000);
        x.mark(1, 3, 1);
        due("two down, one of worth 1.3", x.weight(0), -230_000_000);
        x.mark(3, 0, 1);
        due("worth 1.3 up, worth 1 down, and 3 likes now", x.weight(0), 30_000_000);
        due("that of the other", x.weight(3), 100_000_000);
    }

    private static void weightOfEveryCount() {
        CHECKS.of("Terms II", "WEIGHT of a post");
        for (int ups = 0; ups <= 5; ups++) {
            for (int downs = 0; downs <= 5 - ups; downs++) {
                Forum x = Scene.forum(6);
                damp(x, 0);
                x.post(5, NONE);
                for (int p = 0; p < ups + downs; p++) {
                    x.mark(p, 0, p < ups ? 1 : -1);
                }
                due(ups + " up and " + downs + " down", x.weight(0), (ups - downs) * ALL_HUNDREDS);
            }
        }
    }

    private static void weightOfNoPost() {
        CHECKS.of("Promise 11", "0 if there is none such.");
        Forum x = Scene.forumWithAPostEach(2);
        x.mark(0, 1, 1);
        x.mark(1, 0, 1);
        for (int post : new int[] {-2, -1, 2, 3, 39, 40, Integer.MIN_VALUE, Integer.MAX_VALUE}) {
            due("weight(" + post + ")", x.weight(post), 0);
        }
        due("weight(0)", x.weight(0), 13000);
    }

    /** Each of the 2^n ways in which n marks can fall is weighed by itself, with numbers of any length. */
    private static BigInteger chance(int u, int n, int h) {
        BigInteger sum = BigInteger.ZERO;
        for (int way = 0; way < 1 << n; way++) {
            int ups = Integer.bitCount(way);
            if (ups >= u) {
                sum = sum.add(BigInteger.valueOf(h).pow(ups).multiply(BigInteger.valueOf(100 - h).pow(n - ups)));
            }
        }
        return sum.multiply(BigInteger.valueOf(1000));
    }

    /** The least RISK at which so many hundredths are not above it. */
    private static int leastRisk(int u, int n, int h) {
        BigInteger[] parts = chance(u, n, h).divideAndRemainder(BigInteger.valueOf(100).pow(n));
        return parts[0].intValue() + parts[1].signum();
    }

    private static void sureOfEveryRisk() {
        CHECKS.of("Terms II", "the greatest h (0 .. 100) for which the chance of u or more of n = u + d is not above RISK");
        for (int u = 0; u <= 6; u++) {
            for (int d = 0; d <= 6 - u; d++) {
                int[] least = new int[101];
                for (int h = 0; h <= 100; h++) {
                    least[h] = leastRisk(u, u + d, h);
                }
                for (int risk = 0; risk < 1000; risk += 250) {
                    suresAre(u, d, risk, least);
                }
            }
        }
    }

    private static void suresAre(int u, int d, int firstRisk, int[] leastRisks) {
        Forum x = new RealForum();
        for (int risk = firstRisk; risk < firstRisk + 250; risk++) {
            x.rules(30, risk, 2, 0, 1);
            int want = 0;
            for (int h = 0; h <= 100 && u + d > 0; h++) {
                want = leastRisks[h] <= risk ? h : want;
            }
            due("sure(" + u + ", " + d + ") at RISK " + risk, x.sure(u, d), want);
        }
    }

    private static void risk(Forum x, int risk) {
        x.rules(30, risk, 2, 0, 1);
    }

    private static void sureIsNotAboveRisk() {
        CHECKS.of("Terms II", "times 1000, is not above RISK times 100^n.");
        int[][] risksAndSures = {{0, 0}, {9, 0}, {10, 1}, {19, 1}, {20, 2}, {499, 49}, {500, 50}, {989, 98}, {990, 99},
            {999, 99}};
        Forum x = new RealForum();
        for (int[] row : risksAndSures) {
            risk(x, row[0]);
            due("sure(1, 0) at RISK " + row[0], x.sure(1, 0), row[1]);
        }
        // .5^2 = .25 and .5^3 = .125 are met exactly; so is 1 - .5^2 = .75, and 1 - .5^3 = .875
        int[][] exact = {{2, 0, 250}, {3, 0, 125}, {1, 1, 750}, {1, 2, 875}, {2, 1, 500}, {3, 2, 500}};
        for (int[] row : exact) {
            risk(x, row[2]);
            due("sure(" + row[0] + ", " + row[1] + ") at RISK " + row[2], x.sure(row[0], row[1]), 50);
            risk(x, row[2] - 1);
            due("sure(" + row[0] + ", " + row[1] + ") just below", x.sure(row[0], row[1]), 49);
        }
    }

    private static void sureAtRiskNought() {
        CHECKS.of("Terms II", "RISK thousandths (0 .. 999)");
        Forum x = new RealForum();
        risk(x, 0);
        for (int u = 0; u <= 6; u++) {
            for (int d = 0; d <= 6 - u; d++) {
                due("sure(" + u + ", " + d + ") at RISK 0", x.sure(u, d), 0);
            }
        }
        risk(x, 1);
        due("sure(1, 0) at RISK 1", x.sure(1, 0), 0);
        due("sure(2, 0) at RISK 1", x.sure(2, 0), 3);
        due("sure(3, 0) at RISK 1", x.sure(3, 0), 10);
        due("sure(6, 0) at RISK 1", x.sure(6, 0), 31);
    }

    private static void sureIsBelowHundred() {
        CHECKS.of("Terms II", "0 to the power of 0 is 1.");
        Forum x = new RealForum();
        risk(x, 999);
        for (int u = 1; u <= 6; u++) {
            due("sure(" + u + ", 0) at RISK 999", x.sure(u, 0), 99);
        }
        due("sure(1, 1) at RISK 999", x.sure(1, 1), 96);
        due("sure(1, 5) at RISK 999", x.sure(1, 5), 68);
        risk(x, 1000);
        due("RISK 1000 is refused", x.about(4), 999);
    }

    private static void sureIsNoughtIfNoneHolds() {
        CHECKS.of("Terms II", "(0 if none does");
        Forum x = new RealForum();
        for (int risk : new int[] {0, 1, 500, 998, 999}) {
            risk(x, risk);
            for (int d = 1; d <= 6; d++) {
                due("sure(0, " + d + ") at RISK " + risk, x.sure(0, d), 0);
            }
        }
    }

    private static void sureOfNoMarks() {
        CHECKS.of("Terms II", "n = 0: 0.");
        Forum x = Scene.forumWithAPostEach(2);
        for (int risk : new int[] {0, 1, 500, 998, 999}) {
            risk(x, risk);
            due("sure(0, 0) at RISK " + risk, x.sure(0, 0), 0);
            due("postOf(0, 6) at RISK " + risk, x.postOf(0, 6), 0);
        }
    }

    private static void sureOfCountsInside() {
        CHECKS.of("Promise 13", "SURE of u marks up and d down (together 0 .. 6, neither below 0) at the RISK.");
        int[][] want = {
            {0, 0, 0, 0, 0, 0, 0}, {10, 5, 3, 2, 2, 1}, {31, 19, 14, 11, 9}, {46, 32, 24, 20}, {56, 41, 33},
            {63, 48}, {68},
        };
        Forum x = new RealForum();
        for (int u = 0; u <= 6; u++) {
            for (int d = 0; d <= 6 - u; d++) {
                due("sure(" + u + ", " + d + ")", x.sure(u, d), want[u][d]);
            }
        }
    }

    private static void sureOfCountsOutside() {
        CHECKS.of("Promise 13", "NONE for others.");
        Forum x = new RealForum();
        for (int u = -2; u <= 8; u++) {
            for (int d = -2; d <= 8; d++) {
                boolean isInside = u >= 0 && d >= 0 && u + d <= 6;
                due("sure(" + u + ", " + d + ") is none", x.sure(u, d) == NONE ? 1 : 0, isInside ? 0 : 1);
            }
        }
        int[] far = {Integer.MIN_VALUE, Integer.MIN_VALUE + 3, -1, 3, Integer.MAX_VALUE - 3, Integer.MAX_VALUE};
        for (int u : far) {
            for (int d : far) {
                if (u != 3 || d != 3) {
                    due("sure(" + u + ", " + d + ")", x.sure(u, d), NONE);
                }
            }
        }
    }
}
