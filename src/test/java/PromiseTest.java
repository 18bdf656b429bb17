/** The promises of the document one by one: ordinary inputs, the edges it names, wrong inputs. */
public final class PromiseTest {
    private static final int NONE = ForumWeights.NONE;
    private static final int[] FAR = {Integer.MIN_VALUE, -2, -1, 40, 41, Integer.MAX_VALUE};

    private static final Checks CHECKS = new Checks("PromiseTest");

    private PromiseTest() {
    }

    public static void main(String[] args) {
        newObject();
        people();
        hours();
        rules();
        posts();
        marks();
        takingBack();
        pins();
        lowers();
        uppers();
        weights();
        whatPostsTell();
        greatnessAndSure();
        sures();
        suresAtEdgesOfRisk();
        hiding();
        hidingIsByWorth();
        appeals();
        pools();
        juries();
        juryOfTheFirst();
        saying();
        keptHidden();
        lists();
        listsByQuota();
        listsByGreatness();
        longestLists();
        hiddenOnesInLists();
        trees();
        deepTrees();
        aboutIt();
        CHECKS.end();
    }

    private static void due(String call, long got, long want) {
        CHECKS.due(call, got, want);
    }

    private static void due(String call, boolean got, boolean want) {
        CHECKS.due(call, got, want);
    }

    private static Forum forum(int people) {
        Forum x = new RealForum();
        for (int p = 0; p < people; p++) {
            x.person();
        }
        return x;
    }

    /** Post p is that of person p, and answers none. */
    private static Forum forumWithAPostEach(int people) {
        Forum x = forum(people);
        for (int p = 0; p < people; p++) {
            x.post(p, NONE);
        }
        return x;
    }

    private static void aboutIs(String when, Forum x, int... want) {
        for (int what = 0; what < want.length; what++) {
            due(when + " about(" + what + ")", x.about(what), want[what]);
        }
    }

    private static void listIs(String when, Forum x, int... want) {
        due(when + " list()", x.list(), want.length);
        for (int i = 0; i < want.length; i++) {
            due(when + " listed(" + i + ")", x.listed(i), want[i]);
        }
        due(when + " listed behind the end", x.listed(want.length), NONE);
        due(when + " listed(-1)", x.listed(-1), NONE);
        due(when + " listed(MIN)", x.listed(Integer.MIN_VALUE), NONE);
        due(when + " listed(MAX)", x.listed(Integer.MAX_VALUE), NONE);
    }

    private static void treeIs(String when, Forum x, int root, int... want) {
        for (int i = 0; i < want.length; i++) {
            due(when + " tree(" + root + ", " + i + ")", x.tree(root, i), want[i]);
        }
        due(when + " tree behind the end", x.tree(root, want.length), NONE);
        due(when + " tree(root, -1)", x.tree(root, -1), NONE);
        due(when + " tree(root, MIN)", x.tree(root, Integer.MIN_VALUE), NONE);
        due(when + " tree(root, MAX)", x.tree(root, Integer.MAX_VALUE), NONE);
    }

    // Promise 1
    private static void newObject() {
        Forum x = new RealForum();
        due("NONE", NONE, -1);
        aboutIs("new:", x, 0, 0, 0, 30, 100, 2, 0, 1);
        due("new: lower()", x.lower(), 1);
        listIs("new:", x);
        due("new: upper(0)", x.upper(0), NONE);
        due("new: post(0, NONE)", x.post(0, NONE), NONE);
    }

    // Promise 2
    private static void people() {
        Forum x = new RealForum();
        for (int p = 0; p < 6; p++) {
            due("person()", x.person(), p);
            due("about(0)", x.about(0), p + 1);
        }
        due("the seventh person()", x.person(), NONE);
        due("the eighth person()", x.person(), NONE);
        due("about(0) of six", x.about(0), 6);
    }

    // Promise 3
    private static void hours() {
        Forum x = new RealForum();
        due("hour(-1)", x.hour(-1), false);
        due("hour(0)", x.hour(0), true);
        due("hour(5)", x.hour(5), true);
        due("hour(5) again", x.hour(5), true);
        due("hour(4)", x.hour(4), false);
        due("hour(10001)", x.hour(10001), false);
        due("hour(MAX)", x.hour(Integer.MAX_VALUE), false);
        due("hour(MIN)", x.hour(Integer.MIN_VALUE), false);
        due("about(2)", x.about(2), 5);
        due("hour(10000)", x.hour(10000), true);
        due("hour(9999)", x.hour(9999), false);
        due("about(2) at the end", x.about(2), 10000);
    }

    // Promise 4
    private static void rules() {
        Forum x = new RealForum();
        int[] most = {50, 999, 40, 20, 100};
        int[] some = {7, 70, 17, 3, 9};
        due("rules, some", rulesOf(x, some), true);
        for (int k = 0; k < most.length; k++) {
            for (int bad : new int[] {-1, most[k] + 1, Integer.MIN_VALUE, Integer.MAX_VALUE}) {
                int[] wrong = {1, 2, 3, 4, 5};
                wrong[k] = bad;
                due("rules with " + bad + " at " + k, rulesOf(x, wrong), false);
                aboutIs("wrong rules:", x, 0, 0, 0, 7, 70, 17, 3, 9);
            }
        }
        due("rules, most", rulesOf(x, most), true);
        aboutIs("most rules:", x, 0, 0, 0, 50, 999, 40, 20, 100);
        due("rules, least", rulesOf(x, new int[5]), true);
        aboutIs("least rules:", x, 0, 0, 0, 0, 0, 0, 0, 0);
    }

    private static boolean rulesOf(Forum x, int[] r) {
        return x.rules(r[0], r[1], r[2], r[3], r[4]);
    }

    // Promise 5
    private static void posts() {
        Forum x = forum(2);
        due("post answering itself", x.post(0, 0), NONE);
        due("post(0, NONE)", x.post(0, NONE), 0);
        due("post(1, 0)", x.post(1, 0), 1);
        due("post(0, 0), one's own", x.post(0, 0), 2);
        due("post(1, 3) of none such", x.post(1, 3), NONE);
        due("post by none such", x.post(2, NONE), NONE);
        for (int far : FAR) {
            due("post(" + far + ", NONE)", x.post(far, NONE), NONE);
            if (far != NONE) {
                due("post(0, " + far + ")", x.post(0, far), NONE);
            }
        }
        due("about(1)", x.about(1), 3);
        for (int number = 3; number < 40; number++) {
            due("post(1, 0)", x.post(1, 0), number);
        }
        due("the post behind 40", x.post(0, NONE), NONE);
        due("the answer behind 40", x.post(0, 39), NONE);
        due("about(1) of 40", x.about(1), 40);
    }

    // Promise 6
    private static void marks() {
        Forum x = forumWithAPostEach(3);
        due("mark none where none is", x.mark(1, 0, 0), true);
        marksAre("none", x, 0, 0, 0);
        due("mark up", x.mark(1, 0, 1), true);
        due("mark up again", x.mark(1, 0, 1), true);
        marksAre("up twice", x, 0, 1, 0);
        due("mark down", x.mark(1, 0, -1), true);
        marksAre("the latest holds", x, 0, 0, 1);
        due("mark up by another", x.mark(2, 0, 1), true);
        marksAre("both", x, 0, 1, 1);
        due("mark none", x.mark(1, 0, 0), true);
        marksAre("one left", x, 0, 1, 0);
        for (int how = -1; how <= 1; how++) {
            due("mark one's own " + how, x.mark(0, 0, how), false);
        }
        for (int how : new int[] {-2, 2, 3, Integer.MIN_VALUE, Integer.MAX_VALUE}) {
            due("mark " + how, x.mark(2, 0, how), false);
        }
        for (int far : FAR) {
            due("mark by " + far, x.mark(far, 0, 1), false);
            due("mark on " + far, x.mark(0, far, 1), false);
        }
        due("mark by the person behind the last", x.mark(3, 0, 1), false);
        due("mark on the post behind the last", x.mark(0, 3, 1), false);
        marksAre("wrong ones change nothing", x, 0, 1, 0);
        marksAre("nor elsewhere", x, 1, 0, 0);
    }

    private static void marksAre(String when, Forum x, int post, int ups, int downs) {
        due(when + ": ups", x.postOf(post, 4), ups);
        due(when + ": downs", x.postOf(post, 5), downs);
    }

    // Promise 7
    private static void takingBack() {
        Forum x = forumWithAPostEach(3);
        x.post(1, 0);
        x.mark(0, 1, 1);
        x.mark(0, 2, -1);
        x.mark(0, 3, 1);
        x.mark(2, 1, 1);
        x.hide(0, 1);
        due("takeBack(0)", x.takeBack(0), 3);
        marksAre("another's stays", x, 1, 1, 0);
        marksAre("down is taken", x, 2, 0, 0);
        marksAre("up is taken", x, 3, 0, 0);
        due("votes stay", x.postOf(1, 9), 1);
        due("takeBack(0) again", x.takeBack(0), 0);
        due("takeBack of none such", x.takeBack(3), NONE);
        for (int far : FAR) {
            due("takeBack(" + far + ")", x.takeBack(far), NONE);
        }
        x.mark(2, 1, 0);
        due("a mark of none is no mark", x.takeBack(2), 0);
    }

    // Promise 8
    private static void pins() {
        Forum x = forumWithAPostEach(2);
        due("not pinned at first", x.postOf(1, 7), 0);
        due("pin off where it is off", x.pin(1, false), true);
        due("still not pinned", x.postOf(1, 7), 0);
        due("pin(1, true)", x.pin(1, true), true);
        due("pinned", x.postOf(1, 7), 1);
        due("the other isn't", x.postOf(0, 7), 0);
        due("pin(1, false)", x.pin(1, false), true);
        due("not pinned any more", x.postOf(1, 7), 0);
        due("pin(2, true)", x.pin(2, true), false);
        for (int far : FAR) {
            due("pin(" + far + ", true)", x.pin(far, true), false);
            due("pin(" + far + ", false)", x.pin(far, false), false);
        }
    }

    // Promise 9
    private static void lowers() {
        Forum x = new RealForum();
        long want = 1;
        for (int p = 0; p < 6; p++) {
            x.person();
            want *= 100;
            due("lower() of no marks", x.lower(), want);
        }
        Forum two = forumWithAPostEach(2);
        two.mark(0, 1, 1);
        due("lower() of one like", two.lower(), 10000);
        two.mark(1, 0, 1);
        due("lower() of two who like each other", two.lower(), 10000 - 30 * 30);
        two.rules(50, 100, 2, 0, 1);
        due("lower() at DAMP 50", two.lower(), 10000 - 50 * 50);
        two.rules(0, 100, 2, 0, 1);
        due("lower() at DAMP 0", two.lower(), 10000);
        two.rules(50, 100, 2, 0, 1);
        two.mark(1, 0, -1);
        due("lower(): a mark down is no like", two.lower(), 10000);
        Forum ring = forumWithAPostEach(3);
        ring.mark(0, 1, 1);
        ring.mark(1, 2, 1);
        ring.mark(2, 0, 1);
        due("lower() of a ring of three", ring.lower(), 1000000 - 30 * 30 * 30);
        ring.mark(0, 2, 1);
        due("lower() with two likes of one", ring.lower(), 2000000 - 30 * 30 * 30 - 30 * 30 * 100);
        due("lower() where all like all", everybodyLikesAll().lower(), 550L * 550 * 550 * 550 * 550 * 250);
    }

    private static Forum everybodyLikesAll() {
        Forum x = forumWithAPostEach(6);
        x.rules(50, 100, 2, 0, 1);
        for (int p = 0; p < 6; p++) {
            for (int q = 0; q < 6; q++) {
                x.mark(q, p, 1);
            }
        }
        return x;
    }

    // Promise 10
    private static void uppers() {
        Forum x = forumWithAPostEach(3);
        due("upper(0) of no marks", x.upper(0), 1000000);
        x.mark(0, 1, 1);
        due("upper(1), liked by one", x.upper(1), 1300000);
        x.post(1, NONE);
        x.mark(0, 3, 1);
        due("upper(1), two posts of one person are one like", x.upper(1), 1300000);
        x.mark(0, 2, 1);
        due("upper(0), two likes", x.upper(0), 2000000);
        due("upper(1), half a like", x.upper(1), 2300000);
        due("upper(2), half a like", x.upper(2), 2300000);
        due("lower()", x.lower(), 2000000);
        x.mark(2, 0, 1);
        // w0 = 1 + .3 w2, w2 = 1 + .15 w0: w0 = 1.3 / .955, w1 = w2 = 1.15 / .955; LOWER = 2000000 * .955
        due("lower() of a round", x.lower(), 1910000);
        due("upper(0) of a round", x.upper(0), 2600000);
        due("upper(1) of a round", x.upper(1), 2300000);
        due("upper(2) of a round", x.upper(2), 2300000);
        due("upper(3)", x.upper(3), NONE);
        for (int far : FAR) {
            due("upper(" + far + ")", x.upper(far), NONE);
        }
        Forum all = everybodyLikesAll();
        for (int p = 0; p < 6; p++) {
            due("upper where all like all", all.upper(p), 2 * 550L * 550 * 550 * 550 * 550 * 250);
        }
    }

    // Promise 11
    private static void weights() {
        Forum x = forumWithAPostEach(4);
        due("weight of no marks", x.weight(0), 0);
        x.mark(1, 0, 1);
        due("weight, one up", x.weight(0), 100000000);
        x.mark(2, 1, 1);
        due("weight, one of more worth up", x.weight(0), 130000000);
        x.mark(3, 0, -1);
        due("weight, up less down", x.weight(0), 30000000);
        x.mark(1, 0, 0);
        due("weight below nothing", x.weight(0), -100000000);
        due("weight of none such", x.weight(4), 0);
        for (int far : FAR) {
            due("weight(" + far + ")", x.weight(far), 0);
        }
    }

    // Promise 12
    private static void whatPostsTell() {
        Forum x = forum(4);
        x.hour(3);
        x.post(2, NONE);
        x.hour(30);
        x.post(1, 0);
        x.post(3, 1);
        x.mark(0, 2, 1);
        x.mark(1, 2, -1);
        x.mark(2, 2, -1);
        x.hide(0, 2);
        x.pin(2, true);
        x.hour(54);
        int[] wantOfTwo = {3, 30, 1, 0, 1, 2, 3, 1, 0, 1, 0, 2};
        for (int what = 0; what < wantOfTwo.length; what++) {
            due("postOf(2, " + what + ")", x.postOf(2, what), wantOfTwo[what]);
        }
        int[] wantOfNone = {2, 3, NONE, 0, 0, 0, 0, 0, 0, 0, 0, -2};
        for (int what = 0; what < wantOfNone.length; what++) {
            due("postOf(0, " + what + ")", x.postOf(0, what), wantOfNone[what]);
        }
        for (int what : new int[] {-1, 12, 13, 19, 20, 21, 22, 23, Integer.MIN_VALUE, Integer.MAX_VALUE}) {
            due("postOf(2, " + what + ")", x.postOf(2, what), NONE);
        }
        for (int what = 0; what <= 22; what++) {
            due("postOf(3, " + what + ") of none such", x.postOf(3, what), NONE);
            due("postOf(-1, " + what + ")", x.postOf(-1, what), NONE);
            due("postOf(MAX, " + what + ")", x.postOf(Integer.MAX_VALUE, what), NONE);
            due("postOf(MIN, " + what + ")", x.postOf(Integer.MIN_VALUE, what), NONE);
        }
    }

    // Promise 12, the days
    private static void greatnessAndSure() {
        Forum x = forumWithAPostEach(2);
        x.mark(0, 1, 1);
        due("SURE of one up", x.postOf(1, 6), 10);
        due("greatness at once", x.postOf(1, 11), 10);
        x.hour(23);
        due("greatness before a day", x.postOf(1, 11), 10);
        x.hour(24);
        due("greatness after a day", x.postOf(1, 11), 9);
        x.rules(30, 200, 2, 0, 100);
        due("SURE at another RISK", x.postOf(1, 6), 20);
        due("greatness at other rules", x.postOf(1, 11), -80);
        x.hour(10000);
        due("greatness at the last hour", x.postOf(1, 11), 20 - 100 * 416);
        x.rules(30, 200, 2, 0, 0);
        due("greatness without AGEING", x.postOf(1, 11), 20);
    }

    // Promise 13
    private static void sures() {
        Forum x = new RealForum();
        int[][] want = {
            {0, 0, 0, 0, 0, 0, 0}, {10, 5, 3, 2, 2, 1}, {31, 19, 14, 11, 9}, {46, 32, 24, 20}, {56, 41, 33},
            {63, 48}, {68},
        };
        for (int u = 0; u <= 6; u++) {
            for (int d = 0; d + u <= 6; d++) {
                due("sure(" + u + ", " + d + ")", x.sure(u, d), want[u][d]);
            }
            due("sure(" + u + ", one too many)", x.sure(u, 7 - u), NONE);
            due("sure(" + u + ", -1)", x.sure(u, -1), NONE);
            due("sure(-1, " + u + ")", x.sure(-1, u), NONE);
        }
        due("sure(7, -1)", x.sure(7, -1), NONE);
        due("sure(-1, 7)", x.sure(-1, 7), NONE);
        for (int far : FAR) {
            due("sure(" + far + ", 0)", x.sure(far, 0), NONE);
            due("sure(0, " + far + ")", x.sure(0, far), NONE);
            due("sure(" + far + ", " + far + ")", x.sure(far, far), NONE);
        }
        due("sure(MAX, MIN)", x.sure(Integer.MAX_VALUE, Integer.MIN_VALUE), NONE);
    }

    // Promise 13, the edges of RISK
    private static void suresAtEdgesOfRisk() {
        Forum x = new RealForum();
        x.rules(30, 0, 2, 0, 1);
        due("sure(1, 0) at RISK 0", x.sure(1, 0), 0);
        due("sure(6, 0) at RISK 0", x.sure(6, 0), 0);
        x.rules(30, 9, 2, 0, 1);
        due("sure(1, 0) at RISK 9", x.sure(1, 0), 0);
        x.rules(30, 10, 2, 0, 1);
        due("sure(1, 0) at RISK 10", x.sure(1, 0), 1);
        x.rules(30, 999, 2, 0, 1);
        due("sure(1, 0) at RISK 999", x.sure(1, 0), 99);
        due("sure(6, 0) at RISK 999", x.sure(6, 0), 99);
        due("sure(1, 1) at RISK 999", x.sure(1, 1), 96);
        due("sure(0, 1) at RISK 999", x.sure(0, 1), 0);
        due("sure(0, 0) at RISK 999", x.sure(0, 0), 0);
        x.rules(30, 250, 2, 0, 1);
        due("sure(2, 0) at RISK 250, just not above", x.sure(2, 0), 50);
        x.rules(30, 249, 2, 0, 1);
        due("sure(2, 0) at RISK 249", x.sure(2, 0), 49);
    }

    // Promise 14
    private static void hiding() {
        Forum x = forumWithAPostEach(4);
        due("hide(1, 0)", x.hide(1, 0), true);
        due("one of worth 1 is below 2", x.postOf(0, 8), 0);
        due("hide(1, 0) again", x.hide(1, 0), false);
        due("hide one's own", x.hide(0, 0), false);
        due("votes", x.postOf(0, 9), 1);
        due("hide by none such", x.hide(4, 0), false);
        due("hide none such", x.hide(0, 4), false);
        for (int far : FAR) {
            due("hide(" + far + ", 0)", x.hide(far, 0), false);
            due("hide(0, " + far + ")", x.hide(0, far), false);
        }
        due("hide(2, 0)", x.hide(2, 0), true);
        due("two of worth 1 are not below 2", x.postOf(0, 8), 1);
        due("a vote when it is hidden", x.hide(3, 0), false);
        due("votes of two", x.postOf(0, 9), 2);
        due("another post is shown", x.postOf(1, 8), 0);
        x.rules(30, 100, 0, 0, 1);
        due("hide(2, 1) at BOUND 0", x.hide(2, 1), true);
        due("one vote hides at BOUND 0", x.postOf(1, 8), 1);
        due("no vote hides nothing", x.postOf(2, 8), 0);
        x.rules(30, 100, 40, 0, 1);
        due("what is hidden stays so", x.postOf(0, 8), 1);
        for (int p : new int[] {0, 1, 3}) {
            due("hide(" + p + ", 2) at BOUND 40", x.hide(p, 2), true);
        }
        due("BOUND 40 is not met", x.postOf(2, 8), 0);
        due("votes of three", x.postOf(2, 9), 3);
    }

    // Promise 14, the worths at the time of the vote
    private static void hidingIsByWorth() {
        Forum x = forumWithAPostEach(6);
        x.rules(50, 100, 3, 0, 1);
        x.hide(1, 0);
        x.mark(3, 1, 1);
        x.mark(4, 2, 1);
        x.hide(2, 0);
        due("1.5 and 1.5 are not below 3, though the first vote came before the marks", x.postOf(0, 8), 1);
        x.hide(1, 5);
        x.takeBack(3);
        x.hide(2, 5);
        due("1 and 1.5 are below 3", x.postOf(5, 8), 0);
        x.mark(3, 1, 1);
        due("it takes a vote to hide", x.postOf(5, 8), 0);
        x.hide(3, 5);
        due("1.5, 1.5 and 1", x.postOf(5, 8), 1);
    }

    // Promise 15
    private static void appeals() {
        Forum x = forumWithAPostEach(5);
        due("an appeal of a shown one", x.appeal(0, 1), NONE);
        x.rules(30, 100, 1, 0, 1);
        x.hide(1, 0);
        for (int far : FAR) {
            due("appeal(" + far + ", 1)", x.appeal(far, 1), NONE);
        }
        due("appeal of none such", x.appeal(5, 1), NONE);
        x.mark(2, 0, 1);
        due("two are too few", x.appeal(0, 1), NONE);
        due("that was no appeal", x.postOf(0, 10), 0);
        x.mark(2, 0, 0);
        // 1 * 1103515245 + 12345 = 1103527590, its upper half is 16838: place 2 of {2, 3, 4}
        due("three are enough", x.appeal(0, 1), 4);
        due("it goes on", x.postOf(0, 10), 1);
        due("a second appeal", x.appeal(0, 1), NONE);
        due("it is hidden still", x.postOf(0, 8), 1);
    }

    // Promise 15, who is in the pool
    private static void pools() {
        for (int kind = 0; kind < 7; kind++) {
            Forum x = forum(5);
            x.rules(30, 100, 1, 0, 1);
            x.post(0, NONE);
            x.post(0, 0);
            x.post(0, 0);
            x.post(0, NONE);
            x.hide(1, 2);
            boolean isIn = true;
            switch (kind) {
                case 0: x.mark(2, 2, 1); isIn = false; break;
                case 1: x.mark(2, 0, -1); isIn = false; break;
                case 2: x.mark(2, 1, 1); isIn = false; break;
                case 3: x.post(2, 1); isIn = false; break;
                case 4: x.mark(2, 3, 1); x.post(2, 3); break;
                case 5: x.hide(2, 1); break;
                default: x.mark(2, 0, 1); x.takeBack(2); break;
            }
            due("pool of kind " + kind, x.appeal(2, 1) != NONE, isIn);
        }
        Forum x = forum(5);
        x.post(0, NONE);
        x.rules(30, 100, 2, 0, 1);
        x.hide(1, 0);
        x.hide(2, 0);
        due("two who voted leave two", x.appeal(0, 1), NONE);
        x.person();
        due("a new person is in the pool", x.appeal(0, 1) >= 3, true);
    }

    // Promise 15, how the jury is drawn
    private static void juries() {
        int[][] seedsAndJuries = {{0, 2, 5, 3}, {1, 4, 2, 5}, {-1, 3, 5, 2}, {5, 5, 4, 2}, {123456789, 2, 4, 3},
            {Integer.MAX_VALUE, 3, 4, 2}, {Integer.MIN_VALUE, 2, 3, 4}};
        for (int[] row : seedsAndJuries) {
            Forum x = forumWithAPostEach(6);
            x.rules(30, 100, 1, 0, 1);
            x.hide(1, 0);
            due("appeal with seed " + row[0], x.appeal(0, row[0]), row[1]);
            for (int i = 0; i < 3; i++) {
                due("seed " + row[0] + " postOf(0, " + (20 + i) + ")", x.postOf(0, 20 + i), row[1 + i]);
            }
            due("no fourth", x.postOf(0, 23), NONE);
            due("none before the first", x.postOf(0, 19), NONE);
            due("no jury of another", x.postOf(1, 20), NONE);
        }
    }

    // Promise 15, a jury of the first numbers
    private static void juryOfTheFirst() {
        Forum x = forumWithAPostEach(5);
        x.rules(30, 100, 1, 0, 1);
        x.hide(3, 4);
        // 12345 has an upper half of 0: place 0 of {0, 1, 2}; the next two fall on place 0 as well
        due("the lowest number is drawn", x.appeal(4, 0), 0);
        due("the second", x.postOf(4, 21), 1);
        due("the third", x.postOf(4, 22), 2);
        due("person 0 says", x.say(4, 0, false), 1);
        due("person 0 has said", x.say(4, 0, false), NONE);
        due("person 1 says", x.say(4, 1, false), 2);
    }

    private static Forum forumWithAppeal() {
        Forum x = forumWithAPostEach(6);
        x.rules(30, 100, 1, 0, 1);
        x.hide(1, 0);
        x.appeal(0, 1); // the jury is 4, 2, 5
        return x;
    }

    // Promise 16
    private static void saying() {
        Forum x = forumWithAppeal();
        for (int p : new int[] {0, 1, 3, 6, -1, -2, 32, Integer.MIN_VALUE, Integer.MAX_VALUE}) {
            due("say by " + p, x.say(0, p, false), NONE);
        }
        for (int far : FAR) {
            due("say of " + far, x.say(far, 4, false), NONE);
        }
        due("say of one without an appeal", x.say(1, 4, false), NONE);
        due("the first no", x.say(0, 4, false), 1);
        due("said already", x.say(0, 4, false), NONE);
        due("said already, and otherwise", x.say(0, 4, true), NONE);
        due("hidden till two say no", x.postOf(0, 8), 1);
        due("the first yes", x.say(0, 2, true), 1);
        due("the second no", x.say(0, 5, false), 2);
        due("given back", x.postOf(0, 8), 0);
        due("the appeal tells it", x.postOf(0, 10), 2);
        due("the jury is told still", x.postOf(0, 22), 5);
        due("say when it is over", x.say(0, 5, true), NONE);
        due("a vote when it was hidden once", x.hide(3, 0), false);
        due("an appeal when it is shown again", x.appeal(0, 1), NONE);
        Forum y = forumWithAppeal();
        y.say(0, 2, false);
        due("two noes end it", y.say(0, 4, false), 2);
        due("the third is too late", y.say(0, 5, true), NONE);
    }

    // Promise 16, two that say yes
    private static void keptHidden() {
        Forum x = forumWithAppeal();
        due("the first yes", x.say(0, 5, true), 1);
        due("the second yes", x.say(0, 2, true), 3);
        due("kept hidden", x.postOf(0, 8), 1);
        due("the appeal tells it", x.postOf(0, 10), 3);
        due("the third is too late", x.say(0, 4, false), NONE);
        due("no second appeal", x.appeal(0, 7), NONE);
        due("no further vote", x.hide(3, 0), false);
    }

    // Promises 17 and 18
    private static void lists() {
        Forum x = forumWithAPostEach(5);
        listIs("alike, by numbers:", x, 0, 1, 2, 3, 4);
        x.mark(0, 3, 1);
        listIs("the greater SURE:", x, 3, 0, 1, 2, 4);
        x.mark(1, 4, -1);
        x.mark(2, 1, -1);
        listIs("the greater WEIGHT of like SURE:", x, 3, 0, 2, 1, 4);
        x.pin(4, true);
        x.pin(1, true);
        listIs("pinned ones by numbers:", x, 1, 4, 3, 0, 2);
        x.pin(1, false);
        listIs("not pinned any more:", x, 4, 3, 0, 2, 1);
        x.pin(0, true);
        listIs("post 0 pinned:", x, 0, 4, 3, 2, 1);
    }

    // Promise 18, the newest
    private static void listsByQuota() {
        Forum x = forumWithAPostEach(6);
        x.hour(1);
        x.post(0, NONE);
        int[][] wants = {{0, 1, 2, 3, 4, 5, 6}, {6, 5, 4, 3, 2, 1, 0}, {0, 6, 1, 5, 2, 4, 3}, {0, 1, 6, 2, 3, 5, 4}};
        for (int quota = 0; quota < wants.length; quota++) {
            x.rules(30, 100, 2, quota, 1);
            listIs("QUOTA " + quota + ":", x, wants[quota]);
        }
        x.rules(30, 100, 2, 20, 1);
        listIs("QUOTA 20:", x, 0, 1, 2, 3, 4, 5, 6);
        x.rules(30, 100, 2, 2, 1);
        x.pin(3, true);
        listIs("places are counted behind the pinned:", x, 3, 0, 6, 1, 5, 2, 4);
        x.pin(6, true);
        listIs("pinned ones are none of the rest:", x, 3, 6, 0, 5, 1, 4, 2);
    }

    // Promise 18, the best
    private static void listsByGreatness() {
        Forum x = forumWithAPostEach(4);
        x.mark(0, 1, 1);
        x.hour(24 * 10);
        x.post(0, NONE);
        listIs("ten days level one up, WEIGHT tells:", x, 1, 4, 0, 2, 3);
        x.hour(24 * 10 + 23);
        x.post(2, NONE);
        x.rules(30, 100, 2, 0, 2);
        listIs("AGEING 2:", x, 4, 5, 1, 0, 2, 3);
        x.rules(30, 100, 2, 0, 0);
        listIs("AGEING 0:", x, 1, 0, 2, 3, 4, 5);
        x.mark(0, 2, 1);
        x.mark(3, 0, 1);
        x.mark(1, 3, 1);
        // 3 marked 0 and is marked by 1, so 3's mark has the most worth but for that of 0
        listIs("by the worths of markers:", x, 1, 2, 0, 3, 4, 5);
    }

    // Promises 17 and 18, as long as it gets
    private static void longestLists() {
        Forum x = forum(1);
        int[] rising = new int[40];
        int[] falling = new int[40];
        for (int number = 0; number < 40; number++) {
            x.post(0, NONE);
            rising[number] = number;
            falling[number] = 39 - number;
        }
        listIs("40 alike:", x, rising);
        x.rules(30, 100, 2, 1, 1);
        listIs("40 from the newest on:", x, falling);
        for (int number = 0; number < 40; number++) {
            x.pin(number, true);
        }
        listIs("40 pinned:", x, rising);
    }

    // Promises 17 and 18, hidden ones
    private static void hiddenOnesInLists() {
        Forum x = forumWithAPostEach(6);
        x.rules(30, 100, 1, 0, 1);
        x.pin(0, true);
        x.hide(1, 0);
        x.hide(0, 3);
        listIs("hidden ones are not in it:", x, 1, 2, 4, 5);
        x.appeal(0, 1);
        listIs("nor while an appeal goes on:", x, 1, 2, 4, 5);
        x.say(0, 4, false);
        x.say(0, 2, false);
        listIs("given back, it is pinned still:", x, 0, 1, 2, 4, 5);
    }

    // Promise 19
    private static void trees() {
        Forum x = forum(2);
        x.post(0, NONE);
        x.post(0, NONE);
        int[] answered = {0, 1, 0, 2, 4, 2, 3, 0};
        for (int to : answered) {
            x.post(1, to);
        }
        treeIs("by answers:", x, 0, 0, 2, 5, 7, 4, 6, 9);
        treeIs("by answers:", x, 1, 1, 3, 8);
        x.rules(30, 100, 0, 0, 1);
        x.hide(0, 2);
        treeIs("hidden ones are in it:", x, 0, 0, 2, 5, 7, 4, 6, 9);
        for (int number = 2; number < 10; number++) {
            due("tree of an answer", x.tree(number, 0), NONE);
        }
        due("tree of none such", x.tree(10, 0), NONE);
        for (int far : FAR) {
            due("tree(" + far + ", 0)", x.tree(far, 0), NONE);
        }
    }

    // Promise 19, as deep and as broad as it goes
    private static void deepTrees() {
        Forum deep = forum(1);
        Forum broad = forum(1);
        int[] rising = new int[40];
        for (int number = 0; number < 40; number++) {
            deep.post(0, number - 1);
            broad.post(0, number == 0 ? NONE : 0);
            rising[number] = number;
        }
        treeIs("deep:", deep, 0, rising);
        treeIs("broad:", broad, 0, rising);
        for (int number = 0; number < 40; number++) {
            due("the deep one's ROOT", deep.postOf(number, 3), 0);
            due("what the deep one answers", deep.postOf(number, 2), number - 1);
        }
    }

    // Promise 20
    private static void aboutIt() {
        Forum x = forumWithAPostEach(4);
        x.post(0, 0);
        x.hour(77);
        x.rules(11, 22, 33, 14, 55);
        aboutIs("some:", x, 4, 5, 77, 11, 22, 33, 14, 55);
        for (int what : new int[] {-1, 8, 9, Integer.MIN_VALUE, Integer.MAX_VALUE}) {
            due("about(" + what + ")", x.about(what), NONE);
        }
    }
}
