/** The boundaries that part IV of the document's terms and promises 12 and 17 to 19 name: lists and trees. */
public final class ListEdgeTest {
    private static final int NONE = ForumWeights.NONE;
    private static final int MIN = Integer.MIN_VALUE;
    private static final int MAX = Integer.MAX_VALUE;

    private static final Checks CHECKS = new Checks("ListEdgeTest");

    private ListEdgeTest() {
    }

    public static void main(String[] args) {
        theEmptyList();
        listsOfEveryLength();
        allHidden();
        hiddenAndBack();
        placesFromNought();
        noPinned();
        somePinned();
        allPinned();
        hiddenPinned();
        quotaNoughtIsNever();
        quotaOneIsAlways();
        quotaTwoIsEverySecond();
        quotaTwentyIsTheMost();
        quotasOfEveryNumber();
        placesAreCountedBehindThePinned();
        theNewestIsOfTheRest();
        theNewestByHour();
        wholeDaysOfTwentyFourHours();
        daysSinceItWasWritten();
        ageingFromNoughtToHundred();
        theOldestPost();
        greatnessGoesBeforeWeight();
        likeGreatnessByWeight();
        weightsBelowNought();
        likeWeightByNumber();
        theListIsThatOfNow();
        theTreeOfOne();
        theDeepestTree();
        theBroadestTree();
        answersByRisingNumbers();
        answersBehindADeepOne();
        lateAnswersToEarlyOnes();
        treesByTheirRoots();
        placesOfATree();
        CHECKS.end();
    }

    private static void due(String call, long got, long want) {
        CHECKS.due(call, got, want);
    }

    private static void listIs(String when, Forum x, int... want) {
        due(when + " list()", x.list(), want.length);
        for (int i = 0; i < want.length; i++) {
            due(when + " listed(" + i + ")", x.listed(i), want[i]);
        }
        due(when + " listed(-1)", x.listed(-1), NONE);
        due(when + " listed(" + want.length + ")", x.listed(want.length), NONE);
    }

    private static void treeIs(String when, Forum x, int root, int... want) {
        for (int i = 0; i < want.length; i++) {
            due(when + " tree(" + root + ", " + i + ")", x.tree(root, i), want[i]);
        }
        due(when + " tree(" + root + ", -1)", x.tree(root, -1), NONE);
        due(when + " tree(" + root + ", " + want.length + ")", x.tree(root, want.length), NONE);
    }

    private static Forum alike(int posts) {
        Forum x = Scene.forum(1);
        Scene.posts(x, posts, 0, NONE);
        return x;
    }

    private static void quota(Forum x, int quota) {
        x.rules(30, 100, 2, quota, 1);
    }

    private static int[] rising(int many) {
        int[] row = new int[many];
        for (int i = 0; i < many; i++) {
            row[i] = i;
        }
        return row;
    }

    private static void theEmptyList() {
        CHECKS.of("Promise 17", "Posts of THE LIST.");
        listIs("nobody:", new RealForum());
        listIs("people without posts:", Scene.forum(6));
        Forum x = new RealForum();
        for (int quota = 0; quota <= 20; quota++) {
            quota(x, quota);
            listIs("QUOTA " + quota + ":", x);
        }
    }

    private static void listsOfEveryLength() {
        CHECKS.of("Promise 17", "Posts of THE LIST.");
        for (int posts = 1; posts <= 40; posts++) {
            listIs(posts + " posts:", alike(posts), rising(posts));
        }
    }

    private static void allHidden() {
        CHECKS.of("Terms IV", "posts that aren't HIDDEN");
        Forum x = Scene.forumWithAPostEach(3);
        x.rules(30, 100, 0, 1, 1);
        x.pin(1, true);
        listIs("none hidden:", x, 1, 2, 0);
        x.hide(0, 2);
        listIs("the last hidden:", x, 1, 0);
        x.hide(0, 1);
        listIs("the pinned one hidden:", x, 0);
        x.hide(1, 0);
        listIs("all hidden:", x);
    }

    private static void hiddenAndBack() {
        CHECKS.of("Terms IV", "posts that aren't HIDDEN");
        Forum x = Scene.forumWithAPostEach(6);
        x.rules(30, 100, 1, 0, 1);
        x.hide(1, 0);
        listIs("hidden:", x, 1, 2, 3, 4, 5);
        x.appeal(0, 1);
        x.say(0, 4, true);
        x.say(0, 2, false);
        listIs("while an appeal goes on:", x, 1, 2, 3, 4, 5);
        x.say(0, 5, false);
        listIs("given back:", x, 0, 1, 2, 3, 4, 5);
        x.hide(0, 1);
        x.appeal(1, 1);
        x.say(1, x.postOf(1, 20), true);
        x.say(1, x.postOf(1, 21), true);
        listIs("the other kept:", x, 0, 2, 3, 4, 5);
    }

    private static void placesFromNought() {
        CHECKS.of("Promise 18", "The post at place i (from 0) of THE LIST. NONE if there is none such.");
        Forum x = alike(40);
        due("listed(0)", x.listed(0), 0);
        due("listed(39)", x.listed(39), 39);
        for (int i : new int[] {-1, -2, 40, 41, MIN, MAX, 1 << 16}) {
            due("listed(" + i + ")", x.listed(i), NONE);
        }
    }

    private static void noPinned() {
        CHECKS.of("Terms IV", "First the PINNED ones, by numbers.");
        Forum x = alike(4);
        listIs("none pinned:", x, 0, 1, 2, 3);
        x.pin(2, true);
        x.pin(2, false);
        listIs("none pinned any more:", x, 0, 1, 2, 3);
    }

    /** By numbers: not by greatness, and not by the order in which they were pinned. */
    private static void somePinned() {
        CHECKS.of("Terms IV", "First the PINNED ones, by numbers.");
        Forum x = Scene.forumWithAPostEach(5);
        x.mark(0, 4, 1);
        x.mark(1, 4, 1);
        x.mark(2, 3, 1);
        listIs("none pinned:", x, 4, 3, 0, 1, 2);
        x.pin(4, true);
        x.pin(2, true);
        x.pin(3, true);
        listIs("three pinned:", x, 2, 3, 4, 0, 1);
        x.pin(3, false);
        listIs("two pinned:", x, 2, 4, 3, 0, 1);
    }

    private static void allPinned() {
        CHECKS.of("Terms IV", "First the PINNED ones, by numbers.");
        Forum x = alike(40);
        for (int post = 39; post >= 0; post--) {
            x.pin(post, true);
        }
        listIs("all pinned:", x, rising(40));
        quota(x, 1);
        listIs("all pinned at QUOTA 1:", x, rising(40));
    }

    private static void hiddenPinned() {
        CHECKS.of("Terms IV", "posts that aren't HIDDEN. First the PINNED ones");
        Forum x = Scene.forumWithAPostEach(3);
        x.rules(30, 100, 1, 0, 1);
        x.pin(2, true);
        listIs("pinned:", x, 2, 0, 1);
        x.hide(0, 2);
        due("pinned still", x.postOf(2, 7), 1);
        listIs("pinned and hidden:", x, 0, 1);
    }

    private static void quotaNoughtIsNever() {
        CHECKS.of("Terms IV", "at every QUOTA-th place (QUOTA 0: never)");
        Forum x = alike(40);
        quota(x, 0);
        listIs("QUOTA 0:", x, rising(40));
    }

    private static void quotaOneIsAlways() {
        CHECKS.of("Terms IV", "at every QUOTA-th place");
        Forum x = alike(40);
        quota(x, 1);
        int[] falling = new int[40];
        for (int i = 0; i < 40; i++) {
            falling[i] = 39 - i;
        }
        listIs("QUOTA 1:", x, falling);
    }

    private static void quotaTwoIsEverySecond() {
        CHECKS.of("Terms IV", "place by place, counted from 1 behind these: at every QUOTA-th place");
        Forum x = alike(7);
        quota(x, 2);
        listIs("QUOTA 2 of seven:", x, 0, 6, 1, 5, 2, 4, 3);
        x.post(0, NONE);
        listIs("QUOTA 2 of eight:", x, 0, 7, 1, 6, 2, 5, 3, 4);
    }

    private static void quotaTwentyIsTheMost() {
        CHECKS.of("Promise 4", "QUOTA (0 .. 20)");
        Forum x = alike(19);
        quota(x, 20);
        listIs("QUOTA 20 of 19:", x, rising(19));
        Scene.posts(x, 1, 0, NONE);
        listIs("QUOTA 20 of 20:", x, rising(20));
        Scene.posts(x, 1, 0, NONE);
        due("place 19 of 21", x.listed(18), 18);
        due("place 20 of 21", x.listed(19), 20);
        due("place 21 of 21", x.listed(20), 19);
        Scene.posts(x, 19, 0, NONE);
        due("place 20 of 40", x.listed(19), 39);
        due("place 21 of 40", x.listed(20), 19);
        due("place 39 of 40", x.listed(38), 37);
        due("place 40 of 40", x.listed(39), 38);
        quota(x, 21);
        due("QUOTA 21 is refused", x.about(6), 20);
        quota(x, 19);
        due("place 18 at QUOTA 19", x.listed(17), 17);
        due("place 19 at QUOTA 19", x.listed(18), 39);
        due("place 38 at QUOTA 19", x.listed(37), 38);
        due("place 39 at QUOTA 19", x.listed(38), 36);
    }

    /** Of alike ones the best is the lowest number and the newest the highest: two ends that meet. */
    private static void quotasOfEveryNumber() {
        CHECKS.of("Terms IV", "at every QUOTA-th place (QUOTA 0: never) the newest of the rest");
        for (int quota = 0; quota <= 20; quota++) {
            Forum x = alike(40);
            quota(x, quota);
            int[] want = new int[40];
            int low = 0;
            int high = 39;
            for (int place = 1; place <= 40; place++) {
                boolean isForNewest = quota != 0 && place % quota == 0;
                want[place - 1] = isForNewest ? high : low;
                high -= isForNewest ? 1 : 0;
                low += isForNewest ? 0 : 1;
            }
            listIs("QUOTA " + quota + ":", x, want);
        }
    }

    private static void placesAreCountedBehindThePinned() {
        CHECKS.of("Terms IV", "counted from 1 behind these");
        Forum x = alike(6);
        quota(x, 3);
        listIs("none pinned:", x, 0, 1, 5, 2, 3, 4);
        x.pin(4, true);
        listIs("one pinned:", x, 4, 0, 1, 5, 2, 3);
        x.pin(0, true);
        listIs("two pinned:", x, 0, 4, 1, 2, 5, 3);
        x.pin(2, true);
        listIs("three pinned:", x, 0, 2, 4, 1, 3, 5);
        quota(x, 1);
        listIs("three pinned at QUOTA 1:", x, 0, 2, 4, 5, 3, 1);
    }

    /** The newest that is still to be placed: not the one that a place before had for its being the best. */
    private static void theNewestIsOfTheRest() {
        CHECKS.of("Terms IV", "the newest of the rest");
        Forum x = Scene.forumWithAPostEach(5);
        quota(x, 2);
        x.mark(0, 4, 1);
        listIs("the best is the newest:", x, 4, 3, 0, 2, 1);
        x.mark(0, 3, 1);
        listIs("the two best are the newest:", x, 3, 4, 0, 2, 1);
        x.pin(4, true);
        listIs("the newest is pinned:", x, 4, 3, 2, 0, 1);
        x.rules(30, 100, 1, 2, 1);
        x.hide(0, 2);
        listIs("the newest of the rest is hidden:", x, 4, 3, 1, 0);
    }

    private static void theNewestByHour() {
        CHECKS.of("Terms IV", "(the latest hour, of like ones the highest number)");
        Forum x = Scene.forum(2);
        quota(x, 2);
        x.post(0, NONE);
        x.post(0, NONE);
        x.hour(1);
        x.post(0, NONE);
        x.post(0, 0);
        x.hour(10000);
        x.post(0, NONE);
        x.post(0, 4);
        // the first four have 416 whole days each
        listIs("at the last hour:", x, 4, 5, 0, 3, 1, 2);
        x.rules(30, 100, 2, 2, 0);
        listIs("without AGEING:", x, 0, 5, 1, 4, 2, 3);
    }

    private static void wholeDaysOfTwentyFourHours() {
        CHECKS.of("Terms IV", "times the whole days (of 24 hours) since it was written");
        int[][] hoursAndDays = {{0, 0}, {1, 0}, {23, 0}, {24, 1}, {25, 1}, {47, 1}, {48, 2}, {71, 2}, {72, 3},
            {9983, 415}, {9984, 416}, {10000, 416}};
        Forum x = Scene.forumWithAPostEach(1);
        for (int[] row : hoursAndDays) {
            x.hour(row[0]);
            x.rules(30, 100, 2, 0, 1);
            due("greatness at hour " + row[0], x.postOf(0, 11), -row[1]);
            x.rules(30, 100, 2, 0, 100);
            due("greatness at AGEING 100 and hour " + row[0], x.postOf(0, 11), -100 * row[1]);
        }
    }

    /** The days begin with the post and not at midnight. */
    private static void daysSinceItWasWritten() {
        CHECKS.of("Terms IV", "since it was written");
        Forum x = Scene.forumWithAPostEach(1);
        x.hour(23);
        x.post(0, NONE);
        x.hour(24);
        due("a day", x.postOf(0, 11), -1);
        due("an hour over midnight", x.postOf(1, 11), 0);
        listIs("the younger one:", x, 1, 0);
        x.hour(46);
        due("23 hours", x.postOf(1, 11), 0);
        x.hour(47);
        due("24 hours", x.postOf(1, 11), -1);
        listIs("both are a day old:", x, 0, 1);
        x.hour(48);
        listIs("the older one has two days:", x, 1, 0);
    }

    private static void ageingFromNoughtToHundred() {
        CHECKS.of("Terms IV", "the greatest SURE less AGEING (0 .. 100) times the whole days");
        Forum x = Scene.forumWithAPostEach(2);
        x.mark(1, 0, 1);
        x.hour(24);
        x.post(1, NONE);
        int[][] ageingsAndGreatness = {{0, 10}, {1, 9}, {9, 1}, {10, 0}, {11, -1}, {99, -89}, {100, -90}};
        for (int[] row : ageingsAndGreatness) {
            x.rules(30, 100, 2, 0, row[0]);
            due("greatness at AGEING " + row[0], x.postOf(0, 11), row[1]);
            due("greatness of the new one", x.postOf(2, 11), 0);
            due("the best at AGEING " + row[0], x.listed(0), row[0] <= 10 ? 0 : 2);
        }
        x.rules(30, 100, 2, 0, 101);
        due("AGEING 101 is refused", x.postOf(0, 11), -90);
        x.rules(30, 100, 2, 0, -1);
        due("AGEING -1 is refused", x.postOf(0, 11), -90);
    }

    private static void theOldestPost() {
        CHECKS.of("Promise 12", "11 its greatness in THE LIST (SURE less AGEING times days)");
        Forum x = Scene.forum(6);
        x.rules(30, 999, 2, 0, 100);
        x.post(0, NONE);
        x.post(1, NONE);
        for (int person = 1; person <= 5; person++) {
            x.mark(person, 0, 1);
        }
        x.hour(10000);
        x.post(2, NONE);
        due("five ups", x.postOf(0, 11), 99 - 41600);
        due("no marks", x.postOf(1, 11), -41600);
        due("a new one", x.postOf(2, 11), 0);
        listIs("at the last hour:", x, 2, 0, 1);
    }

    private static void greatnessGoesBeforeWeight() {
        CHECKS.of("Terms IV", "else the one with the greatest SURE less AGEING");
        Forum x = Scene.forumWithAPostEach(6);
        x.rules(50, 100, 2, 0, 1);
        x.mark(0, 1, 1);
        for (int person = 2; person <= 5; person++) {
            x.mark(person, 0, 1);
        }
        x.mark(0, 2, 1);
        x.mark(4, 2, 1);
        x.mark(3, 2, -1);
        x.mark(5, 3, 1);
        due("SURE of one up", x.postOf(1, 6), 10);
        due("SURE of two up and one down, the latter being worth more", x.postOf(2, 6), 19);
        due("WEIGHT is the other way round", x.weight(2) < x.weight(1) ? 1 : 0, 1);
        listIs("by SURE:", x, 0, 2, 1, 3, 4, 5);
    }

    private static void likeGreatnessByWeight() {
        CHECKS.of("Terms IV", "of like ones the one with the greatest WEIGHT");
        Forum x = Scene.forumWithAPostEach(5);
        x.mark(0, 2, 1);
        x.mark(1, 3, 1);
        listIs("like worths:", x, 2, 3, 0, 1, 4);
        x.post(1, NONE);
        x.mark(4, 5, 1);
        // 1 has a like now, so its mark on 3 weighs more than that of 0 on 2
        listIs("1 is worth more:", x, 3, 2, 5, 0, 1, 4);
        x.rules(0, 100, 2, 0, 1);
        listIs("at DAMP 0 all are of like worth:", x, 2, 3, 5, 0, 1, 4);
        x.rules(1, 0, 2, 0, 1);
        listIs("at DAMP 1 it is worth more again:", x, 3, 2, 5, 0, 1, 4);
        x.rules(30, 100, 2, 0, 1);
        x.takeBack(4);
        listIs("1 is worth no more:", x, 2, 3, 0, 1, 4, 5);
    }

    private static void weightsBelowNought() {
        CHECKS.of("Terms IV", "of like ones the one with the greatest WEIGHT");
        Forum x = Scene.forumWithAPostEach(5);
        x.mark(1, 0, -1);
        x.mark(2, 0, -1);
        x.mark(3, 1, -1);
        listIs("SURE 0 of all:", x, 2, 3, 4, 1, 0);
        x.rules(30, 0, 2, 0, 1);
        x.mark(0, 4, 1);
        listIs("RISK 0:", x, 4, 2, 3, 1, 0);
    }

    private static void likeWeightByNumber() {
        CHECKS.of("Terms IV", "of like ones the lowest number.");
        Forum x = Scene.forumWithAPostEach(6);
        x.mark(0, 5, 1);
        x.mark(5, 0, 1);
        listIs("two alike:", x, 0, 5, 1, 2, 3, 4);
        x.mark(2, 3, 1);
        x.mark(3, 2, 1);
        listIs("four alike:", x, 0, 2, 3, 5, 1, 4);
        x.mark(1, 4, -1);
        x.mark(4, 1, -1);
        listIs("two alike below:", x, 0, 2, 3, 5, 1, 4);
    }

    private static void theListIsThatOfNow() {
        CHECKS.of("Terms IV", "THE LIST of an hour (that of the clock)");
        Forum x = Scene.forumWithAPostEach(3);
        x.mark(0, 2, 1);
        x.hour(239);
        x.post(0, NONE);
        listIs("nine days:", x, 2, 3, 0, 1);
        x.hour(240);
        listIs("ten days, like greatness, the WEIGHT tells:", x, 2, 3, 0, 1);
        x.mark(1, 3, -1);
        x.mark(1, 2, -1);
        listIs("SURE 5 less 10:", x, 3, 2, 0, 1);
        x.hour(263);
        listIs("the new one has its first day:", x, 3, 2, 0, 1);
        x.takeBack(1);
        listIs("marks taken back:", x, 2, 3, 0, 1);
        x.hour(264);
        listIs("eleven days and one:", x, 2, 3, 0, 1);
        x.rules(30, 100, 2, 0, 2);
        listIs("AGEING 2:", x, 3, 2, 0, 1);
    }

    private static void theTreeOfOne() {
        CHECKS.of("Promise 19", "place i (from 0): a post");
        Forum x = alike(40);
        for (int root = 0; root < 40; root++) {
            treeIs("alone:", x, root, root);
        }
    }

    private static void theDeepestTree() {
        CHECKS.of("Promise 19", "each with its own behind it");
        Forum x = Scene.forum(1);
        for (int post = 0; post < 40; post++) {
            x.post(0, post - 1);
        }
        treeIs("deep:", x, 0, rising(40));
        for (int post = 1; post < 40; post++) {
            due("tree(" + post + ", 0), an answer", x.tree(post, 0), NONE);
        }
    }

    private static void theBroadestTree() {
        CHECKS.of("Promise 19", "behind it its answers by rising numbers");
        Forum x = Scene.forum(1);
        x.post(0, NONE);
        Scene.posts(x, 39, 0, 0);
        treeIs("broad:", x, 0, rising(40));
    }

    private static void answersByRisingNumbers() {
        CHECKS.of("Promise 19", "a post, behind it its answers by rising numbers, each with its own behind it");
        Forum x = Scene.forum(1);
        int[] answers = {NONE, 0, 1, 0, 1, 0, 2, 3, 4, 2, 0, 6};
        for (int answered : answers) {
            x.post(0, answered);
        }
        treeIs("mixed:", x, 0, 0, 1, 2, 6, 11, 9, 4, 8, 3, 7, 5, 10);
    }

    /** The odd posts are a chain, and from each but its end an even one hangs too: those come out from below. */
    private static void answersBehindADeepOne() {
        CHECKS.of("Promise 19", "each with its own behind it");
        Forum x = Scene.forum(1);
        x.post(0, NONE);
        x.post(0, 0);
        x.post(0, 0);
        for (int post = 3; post < 40; post++) {
            x.post(0, post % 2 == 1 ? post - 2 : post - 3);
        }
        int[] want = new int[40];
        for (int k = 1; k <= 20; k++) {
            want[k] = 2 * k - 1;
        }
        for (int k = 21; k < 40; k++) {
            want[k] = 80 - 2 * k;
        }
        treeIs("a comb:", x, 0, want);
    }

    /** 1 to 20 answer the root; 21 answers 20, 22 answers 19 and so on. */
    private static void lateAnswersToEarlyOnes() {
        CHECKS.of("Promise 19", "each with its own behind it");
        Forum x = Scene.forum(1);
        x.post(0, NONE);
        for (int post = 1; post < 40; post++) {
            x.post(0, post <= 20 ? 0 : 41 - post);
        }
        int[] want = new int[40];
        want[1] = 1;
        for (int post = 2; post <= 20; post++) {
            want[2 * post - 2] = post;
            want[2 * post - 1] = 41 - post;
        }
        treeIs("pairs:", x, 0, want);
    }

    private static void treesByTheirRoots() {
        CHECKS.of("Promise 19", "Posts of a tree, by its ROOT");
        Forum x = Scene.forum(2);
        for (int answered : new int[] {NONE, NONE, 0, 1, 2, 3, NONE}) {
            x.post(0, answered);
        }
        treeIs("even:", x, 0, 0, 2, 4);
        treeIs("odd:", x, 1, 1, 3, 5);
        treeIs("alone:", x, 6, 6);
        for (int answer = 2; answer <= 5; answer++) {
            due("tree(" + answer + ", 0)", x.tree(answer, 0), NONE);
            due("tree(" + answer + ", 1)", x.tree(answer, 1), NONE);
        }
        for (int root : new int[] {-2, -1, 7, 39, 40, MIN, MAX}) {
            due("tree(" + root + ", 0)", x.tree(root, 0), NONE);
        }
        x.post(1, 6);
        treeIs("no more alone:", x, 6, 6, 7);
    }

    private static void placesOfATree() {
        CHECKS.of("Promise 19", "NONE if there is none such, or the post answers one.");
        Forum x = Scene.forum(1);
        for (int answered : new int[] {NONE, 0, 0}) {
            x.post(0, answered);
        }
        for (int i : new int[] {-1, -2, 3, 4, 39, 40, 41, MIN, MAX}) {
            due("tree(0, " + i + ")", x.tree(0, i), NONE);
            due("tree(1, " + i + ")", x.tree(1, i), NONE);
            due("tree(3, " + i + ")", x.tree(3, i), NONE);
        }
    }
}
