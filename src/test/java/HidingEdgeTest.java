import java.math.BigInteger;
import java.util.ArrayList;
import java.util.List;
import java.util.Random;

/** The boundaries that part III of the document's terms and promises 14 to 16 name: votes, appeals, juries. */
public final class HidingEdgeTest {
    private static final int NONE = ForumWeights.NONE;
    private static final int MIN = Integer.MIN_VALUE;
    private static final int MAX = Integer.MAX_VALUE;
    private static final int[] EDGE_SEEDS = {0, 1, -1, 2, -2, MAX, MIN, MAX - 1, MIN + 1, 0xffff, 0x10000, 0x7fff0000,
        0x80000000, 0xffff0000, 1103515245, -1103515245, 12345, -12345, 1 << 30, -1 << 30};

    private static final Checks CHECKS = new Checks("HidingEdgeTest");

    private HidingEdgeTest() {
    }

    public static void main(String[] args) {
        eachVotesOnce();
        nobodyVotesOnOnesOwn();
        noVotesHideNothing();
        boundNoughtTakesOneVote();
        justNotBelowBoundHides();
        justBelowBoundDoesNot();
        greatestBoundThatVotesMeet();
        boundFortyIsNeverMet();
        worthsAreThoseOfTheVote();
        boundIsThatOfTheVote();
        noVoteWhenItWasHiddenEver();
        hiddenOnesArePostsStill();
        onlyHiddenOnesHaveAnAppeal();
        oneAppealForEachPost();
        aPoolOfThreeIsEnough();
        poolsOfEverySize();
        thePoolLeavesOutTheAuthor();
        thePoolLeavesOutThoseWhoVoted();
        thePoolLeavesOutThoseWhoMarkedInTheTree();
        thePoolLeavesOutThoseWhoWroteInTheTree();
        thePoolLeavesOutWhoDidBoth();
        thePoolKeepsWhoVotedOnAnotherPostOfTheTree();
        thePoolKeepsThoseOfOtherTrees();
        thePoolIsThatOfTheAppeal();
        thirtyTwoBitsWrapAround();
        theSeedsUpperHalfHasNoSign();
        juriesOfFour();
        juriesOfThree();
        theJuryAreThree();
        theJuryStaysWhenItIsOver();
        eachOfTheJurySaysOnce();
        twoOfThreeDecide();
        onlyTheJurySays();
        givenBackIsShown();
        keptHiddenIsNot();
        CHECKS.end();
    }

    private static void due(String call, long got, long want) {
        CHECKS.due(call, got, want);
    }

    private static void due(String call, boolean got, boolean want) {
        CHECKS.due(call, got, want);
    }

    private static void bound(Forum x, int damp, int bound) {
        x.rules(damp, 100, bound, 0, 1);
    }

    private static void votesAre(String when, Forum x, int post, int votes, boolean hidden) {
        due(when + ": votes on " + post, x.postOf(post, 9), votes);
        due(when + ": hidden " + post, x.postOf(post, 8), hidden ? 1 : 0);
    }

    private static void eachVotesOnce() {
        CHECKS.of("Terms III", "a person votes to hide a post (once each)");
        Forum x = Scene.forumWithAPostEach(6);
        bound(x, 30, 40);
        votesAre("no vote", x, 0, 0, false);
        for (int person = 1; person <= 5; person++) {
            due("hide(" + person + ", 0)", x.hide(person, 0), true);
            votesAre("a vote", x, 0, person, false);
            due("hide(" + person + ", 0) again", x.hide(person, 0), false);
            votesAre("no second vote", x, 0, person, false);
        }
        for (int person = 0; person < 6; person++) {
            due("hide(" + person + ", 0) when all have", x.hide(person, 0), false);
        }
        votesAre("five at most", x, 0, 5, false);
        due("a vote on another post is another vote", x.hide(2, 1), true);
        votesAre("the other", x, 1, 1, false);
    }

    private static void nobodyVotesOnOnesOwn() {
        CHECKS.of("Promise 14", "one's own post");
        Forum x = Scene.forumWithAPostEach(6);
        bound(x, 30, 40);
        for (int person = 0; person < 6; person++) {
            for (int post = 0; post < 6; post++) {
                due("hide(" + person + ", " + post + ")", x.hide(person, post), person != post);
            }
        }
        for (int post = 0; post < 6; post++) {
            votesAre("all but the author", x, post, 5, false);
        }
    }

    private static void noVotesHideNothing() {
        CHECKS.of("Terms III", "a person votes to hide a post");
        Forum x = Scene.forumWithAPostEach(2);
        bound(x, 30, 0);
        votesAre("BOUND 0 and no vote", x, 0, 0, false);
        due("an appeal", x.appeal(0, 1), NONE);
        due("list()", x.list(), 2);
        due("hide(0, 0), one's own", x.hide(0, 0), false);
        due("hide(2, 0) by nobody", x.hide(2, 0), false);
        votesAre("BOUND 0 and refused votes", x, 0, 0, false);
    }

    private static void boundNoughtTakesOneVote() {
        CHECKS.of("Terms III", "BOUND (0 .. 40) times LOWER");
        Forum x = Scene.forumWithAPostEach(2);
        bound(x, 30, 0);
        due("hide(1, 0)", x.hide(1, 0), true);
        votesAre("BOUND 0 and a vote", x, 0, 1, true);
        votesAre("the other", x, 1, 0, false);
    }

    private static void justNotBelowBoundHides() {
        CHECKS.of("Terms III", "are together not below BOUND (0 .. 40) times LOWER");
        for (int bound = 1; bound <= 5; bound++) {
            Forum x = Scene.forumWithAPostEach(6);
            bound(x, 30, bound);
            for (int person = 1; person <= bound; person++) {
                votesAre("BOUND " + bound + " before vote " + person, x, 0, person - 1, false);
                x.hide(person, 0);
            }
            votesAre("BOUND " + bound + " of as many votes", x, 0, bound, true);
        }
    }

    /** Two voters of worth 1 + DAMP / 100 each: at DAMP 50 they are 3, at 49 not quite. */
    private static void justBelowBoundDoesNot() {
        CHECKS.of("Terms III", "are together not below BOUND (0 .. 40) times LOWER");
        for (int damp = 48; damp <= 50; damp++) {
            Forum x = Scene.forumWithAPostEach(5);
            bound(x, damp, 3);
            x.mark(3, 1, 1);
            x.mark(4, 2, 1);
            x.hide(1, 0);
            x.hide(2, 0);
            due("DAMP " + damp + ": UPPERS", x.upper(1) + x.upper(2), 2 * x.lower() / 100 * (100 + damp));
            votesAre("DAMP " + damp, x, 0, 2, damp == 50);
        }
    }

    /** Five voters whom all like, and an author whom nobody likes: w = 1 + .5 w + .1, so each is of worth 2.2. */
    private static Forum fiveWhomAllLike(int damp, int bound) {
        Forum x = Scene.forumWithAPostEach(6);
        bound(x, damp, bound);
        for (int post = 1; post <= 5; post++) {
            for (int person = 0; person <= 5; person++) {
                x.mark(person, post, 1);
            }
        }
        return x;
    }

    private static void greatestBoundThatVotesMeet() {
        CHECKS.of("Terms III", "the UPPERS of those who voted");
        int[] votesOfBound = {1, 1, 1, 2, 2, 3, 3, 4, 4, 5, 5, 5, 6, 6};
        for (int bound = 0; bound < votesOfBound.length; bound++) {
            Forum x = fiveWhomAllLike(50, bound);
            for (int person = 1; person <= 5; person++) {
                due("BOUND " + bound + " hide(" + person + ", 0)", x.hide(person, 0), person <= votesOfBound[bound]);
                int votes = Math.min(person, votesOfBound[bound]);
                votesAre("BOUND " + bound, x, 0, votes, person >= votesOfBound[bound]);
            }
        }
        Forum less = fiveWhomAllLike(49, 11);
        for (int person = 1; person <= 5; person++) {
            less.hide(person, 0);
        }
        votesAre("BOUND 11 at DAMP 49", less, 0, 5, false);
    }

    private static void boundFortyIsNeverMet() {
        CHECKS.of("Terms III", "BOUND (0 .. 40)");
        for (int bound : new int[] {12, 39, 40}) {
            Forum x = fiveWhomAllLike(50, bound);
            for (int person = 1; person <= 5; person++) {
                x.hide(person, 0);
            }
            votesAre("BOUND " + bound, x, 0, 5, false);
            due("an appeal at BOUND " + bound, x.appeal(0, 1), NONE);
        }
    }

    private static void worthsAreThoseOfTheVote() {
        CHECKS.of("Terms III", "as they are then");
        Forum x = Scene.forumWithAPostEach(6);
        bound(x, 50, 3);
        x.hide(1, 0);
        x.mark(3, 1, 1);
        x.mark(4, 2, 1);
        x.hide(2, 0);
        votesAre("worths that rose after the first vote", x, 0, 2, true);
        x.takeBack(3);
        x.takeBack(4);
        votesAre("worths that fell after it was hidden", x, 0, 2, true);
        x.mark(3, 1, 1);
        x.hide(1, 5);
        x.takeBack(3);
        x.mark(4, 2, 1);
        x.hide(2, 5);
        votesAre("worths that fell after the first vote", x, 5, 2, false);
    }

    private static void boundIsThatOfTheVote() {
        CHECKS.of("Terms III", "as they are then");
        Forum x = Scene.forumWithAPostEach(6);
        bound(x, 30, 1);
        x.hide(1, 0);
        bound(x, 30, 3);
        votesAre("BOUND rose after it was hidden", x, 0, 1, true);
        x.hide(1, 2);
        x.hide(3, 2);
        votesAre("BOUND 3 of two", x, 2, 2, false);
        x.hide(4, 2);
        votesAre("BOUND 3 of three", x, 2, 3, true);
        x.hide(1, 5);
        bound(x, 30, 2);
        x.hide(2, 5);
        votesAre("BOUND fell before the second vote", x, 5, 2, true);
    }

    private static void noVoteWhenItWasHiddenEver() {
        CHECKS.of("Promise 14", "or it was HIDDEN ever.");
        Forum x = forumWithAppeal(1);
        for (int person = 0; person < 6; person++) {
            due("hide(" + person + ", 0) while it is hidden", x.hide(person, 0), false);
        }
        votesAre("hidden", x, 0, 1, true);
        sayAll(x, 0, false, false);
        votesAre("given back", x, 0, 1, false);
        for (int person = 0; person < 6; person++) {
            due("hide(" + person + ", 0) when it was given back", x.hide(person, 0), false);
        }
        votesAre("given back for good", x, 0, 1, false);
        Forum y = forumWithAppeal(1);
        sayAll(y, 0, true, true);
        for (int person = 0; person < 6; person++) {
            due("hide(" + person + ", 0) when it was kept", y.hide(person, 0), false);
        }
        votesAre("kept", y, 0, 1, true);
    }

    /** Post 0 is by 0, hidden by 1; the pool is 2, 3, 4 and 5. */
    private static Forum forumWithHidden() {
        Forum x = Scene.forumWithAPostEach(6);
        bound(x, 30, 1);
        x.hide(1, 0);
        return x;
    }

    private static Forum forumWithAppeal(int seed) {
        Forum x = forumWithHidden();
        x.appeal(0, seed);
        return x;
    }

    /** The jury of a post say so in the order in which they were drawn; the last answer is told. */
    private static int sayAll(Forum x, int post, boolean... stays) {
        int answer = NONE;
        for (int i = 0; i < stays.length; i++) {
            answer = x.say(post, x.postOf(post, 20 + i), stays[i]);
        }
        return answer;
    }

    /** The document refuses a hidden post's marks, answers and pins nowhere. */
    private static void hiddenOnesArePostsStill() {
        CHECKS.of("Promises 5, 6, 8 and 19", "a post");
        Forum x = forumWithHidden();
        due("mark", x.mark(2, 0, 1), true);
        due("ups", x.postOf(0, 4), 1);
        due("WEIGHT", x.weight(0), 1_000_000_000_000L);
        due("its author's worth", x.upper(0), 1_300_000_000_000L);
        due("takeBack", x.takeBack(2), 1);
        due("an answer", x.post(3, 0), 6);
        due("the answer's ROOT", x.postOf(6, 3), 0);
        due("its tree", x.tree(0, 0), 0);
        due("its tree's answer", x.tree(0, 1), 6);
        due("pin", x.pin(0, true), true);
        due("pinned", x.postOf(0, 7), 1);
        due("list()", x.list(), 6);
        due("listed(0)", x.listed(0), 1);
        due("hidden", x.postOf(0, 8), 1);
    }

    private static void onlyHiddenOnesHaveAnAppeal() {
        CHECKS.of("Promise 15", "it isn't HIDDEN");
        Forum x = Scene.forumWithAPostEach(6);
        due("no vote", x.appeal(0, 1), NONE);
        x.hide(1, 0);
        due("too few votes", x.appeal(0, 1), NONE);
        due("no appeal", x.postOf(0, 10), 0);
        x.hide(2, 0);
        due("hidden", x.appeal(0, 1) >= 3, true);
        due("it goes on", x.postOf(0, 10), 1);
        due("another post", x.appeal(1, 1), NONE);
        due("no post behind the last", x.appeal(6, 1), NONE);
        due("no post before the first", x.appeal(-1, 1), NONE);
    }

    private static void oneAppealForEachPost() {
        CHECKS.of("Terms III", "An APPEAL of a HIDDEN post (one each)");
        Forum x = forumWithAppeal(1);
        due("a second one while it goes on", x.appeal(0, 2), NONE);
        sayAll(x, 0, true);
        due("a second one when one has said", x.appeal(0, 2), NONE);
        sayAll(x, 0, true, true);
        due("it is over", x.postOf(0, 10), 3);
        due("a second one when it was kept", x.appeal(0, 2), NONE);
        due("over still", x.postOf(0, 10), 3);
        x.hide(0, 1);
        due("one of another post", x.appeal(1, 1) >= 2, true);
        sayAll(x, 1, false, false);
        due("a second one when it was given back", x.appeal(1, 2), NONE);
        due("given back still", x.postOf(1, 10), 2);
    }

    private static void aPoolOfThreeIsEnough() {
        CHECKS.of("Terms III", "NONE, if the POOL has fewer than three.");
        Forum x = forumWithHidden();
        x.mark(4, 0, 1);
        x.mark(5, 0, 1);
        due("a pool of two", x.appeal(0, 1), NONE);
        due("that was no appeal", x.postOf(0, 10), 0);
        for (int what = 20; what <= 22; what++) {
            due("nor is there a JURY", x.postOf(0, what), NONE);
        }
        due("nor may one say", x.say(0, 2, false), NONE);
        x.mark(4, 0, 0);
        due("a pool of three", x.appeal(0, 1) >= 2, true);
        due("that is an appeal", x.postOf(0, 10), 1);
    }

    private static void poolsOfEverySize() {
        CHECKS.of("Terms III", "NONE, if the POOL has fewer than three.");
        for (int people = 2; people <= 6; people++) {
            for (int voters = 1; voters < people; voters++) {
                Forum x = Scene.forum(people);
                bound(x, 30, voters);
                x.post(0, NONE);
                for (int person = 1; person <= voters; person++) {
                    x.hide(person, 0);
                }
                votesAre("all of them", x, 0, voters, true);
                int pool = people - 1 - voters;
                due("a pool of " + pool + " in " + people, x.appeal(0, 1) != NONE, pool >= 3);
            }
        }
    }

    /** There is a jury, and the person is not of it. */
    private static void isOut(String why, Forum x, int post, int person) {
        due(why + ": appeal", x.appeal(post, 1) != NONE, true);
        for (int what = 20; what <= 22; what++) {
            due(why + ": juror " + what, x.postOf(post, what) == person, false);
        }
    }

    private static void thePoolLeavesOutTheAuthor() {
        CHECKS.of("Terms III", "other than the author");
        for (int author = 0; author < 5; author++) {
            Forum x = Scene.forum(5);
            bound(x, 30, 1);
            x.post(author, NONE);
            x.hide((author + 1) % 5, 0);
            isOut("the author " + author, x, 0, author);
        }
    }

    private static void thePoolLeavesOutThoseWhoVoted() {
        CHECKS.of("Terms III", "those who voted to hide it");
        for (int voter = 1; voter < 6; voter++) {
            Forum x = Scene.forum(6);
            bound(x, 30, 2);
            x.post(0, NONE);
            int other = voter == 1 ? 2 : 1;
            x.hide(voter, 0);
            x.hide(other, 0);
            due("three are left", x.appeal(0, 1) != NONE, true);
            for (int what = 20; what <= 22; what++) {
                due("the first voter", x.postOf(0, what) == voter, false);
                due("the second voter", x.postOf(0, what) == other, false);
            }
        }
    }

    /** Post 0, its answers 1 and 2, and 3, which answers 1, are one tree by person 0; 4 and its answer 5 another. */
    private static Forum forumWithTrees(int hidden) {
        Forum x = Scene.forum(6);
        bound(x, 30, 1);
        for (int answered : new int[] {NONE, 0, 0, 1, NONE, 4}) {
            x.post(0, answered);
        }
        x.hide(1, hidden);
        return x;
    }

    private static void thePoolLeavesOutThoseWhoMarkedInTheTree() {
        CHECKS.of("Terms III", "those who have a MARK on, or wrote, a post of its ROOT's tree");
        for (int hidden = 0; hidden <= 3; hidden++) {
            for (int marked = 0; marked <= 3; marked++) {
                for (int how = -1; how <= 1; how += 2) {
                    Forum x = forumWithTrees(hidden);
                    x.mark(3, marked, how);
                    isOut("who marked " + marked + " with " + how, x, hidden, 3);
                    Forum y = forumWithTrees(hidden);
                    y.mark(3, marked, how);
                    y.mark(4, marked, -how);
                    due("two of four marked " + marked, y.appeal(hidden, 1), NONE);
                }
            }
        }
    }

    private static void thePoolLeavesOutThoseWhoWroteInTheTree() {
        CHECKS.of("Terms III", "those who have a MARK on, or wrote, a post of its ROOT's tree");
        for (int hidden = 0; hidden <= 3; hidden++) {
            for (int answered = 0; answered <= 3; answered++) {
                Forum x = forumWithTrees(hidden);
                x.post(5, answered);
                isOut("who answered " + answered, x, hidden, 5);
                Forum y = forumWithTrees(hidden);
                y.post(5, answered);
                y.post(2, 6);
                due("two of four answered " + answered, y.appeal(hidden, 1), NONE);
            }
        }
    }

    /** Who voted and has a mark or a post in the tree is out once, and not in again for being out twice. */
    private static void thePoolLeavesOutWhoDidBoth() {
        CHECKS.of("Terms III", "other than the author, those who voted to hide it, and those who have a MARK on");
        for (int post = 0; post <= 3; post++) {
            for (int hidden = 0; hidden <= 3; hidden++) {
                Forum x = forumWithTrees(hidden);
                x.mark(1, post, 1);
                x.mark(2, post, 1);
                isOut("who voted and marked " + post, x, hidden, 1);
                Forum y = forumWithTrees(hidden);
                y.post(1, post);
                y.post(2, post);
                isOut("who voted and answered " + post, y, hidden, 1);
                Forum z = forumWithTrees(hidden);
                z.post(2, post);
                z.mark(2, post, -1);
                isOut("who marked and answered " + post, z, hidden, 2);
            }
        }
    }

    private static void thePoolKeepsWhoVotedOnAnotherPostOfTheTree() {
        CHECKS.of("Terms III", "those who voted to hide it");
        for (int hidden = 0; hidden <= 3; hidden++) {
            Forum x = forumWithTrees(hidden);
            for (int person = 2; person <= 5; person++) {
                x.hide(person, (hidden + 1) % 4);
                x.hide(person, (hidden + 2) % 4);
            }
            due("all four are in the pool of " + hidden, x.appeal(hidden, 1), 4);
        }
    }

    private static void thePoolKeepsThoseOfOtherTrees() {
        CHECKS.of("Terms III", "a post of its ROOT's tree");
        for (int hidden = 0; hidden <= 5; hidden++) {
            Forum x = forumWithTrees(hidden);
            int elsewhere = hidden <= 3 ? 4 : 0;
            for (int person = 2; person <= 5; person++) {
                x.mark(person, elsewhere, person % 2 == 0 ? 1 : -1);
                x.mark(person, elsewhere + 1, 1);
                x.post(person, elsewhere);
                x.post(person, NONE);
                x.hide(person, elsewhere + 1);
            }
            // 1 * 1103515245 + 12345 has the upper half 16838: place 2 of {2, 3, 4, 5}
            due("all four are in the pool of " + hidden, x.appeal(hidden, 1), 4);
        }
    }

    private static void thePoolIsThatOfTheAppeal() {
        CHECKS.of("Terms III", "the POOL is the people");
        Forum x = Scene.forum(4);
        bound(x, 30, 1);
        x.post(0, NONE);
        x.hide(1, 0);
        due("two of four people", x.appeal(0, 1), NONE);
        x.person();
        due("with a fifth", x.appeal(0, 1), 4);
        x.mark(4, 0, 1);
        x.post(2, 0);
        due("who was drawn stays, though having marked since", x.say(0, 4, false), 1);
        due("and though having answered since", x.say(0, 2, false), 2);
    }

    /** The jury, by numbers of any length that are cut to 32 bits by a division. */
    private static int[] juryOf(int seed, int... pool) {
        BigInteger bits = BigInteger.ONE.shiftLeft(32);
        List<Integer> left = new ArrayList<>();
        for (int person : pool) {
            left.add(person);
        }
        BigInteger s = BigInteger.valueOf(seed);
        int[] jury = new int[3];
        for (int i = 0; i < 3; i++) {
            s = s.multiply(BigInteger.valueOf(1103515245)).add(BigInteger.valueOf(12345)).mod(bits);
            jury[i] = left.remove(s.shiftRight(16).mod(BigInteger.valueOf(left.size())).intValue());
        }
        return jury;
    }

    private static void juryIs(String when, Forum x, int post, int seed, int... jury) {
        due(when + ": appeal(" + post + ", " + seed + ")", x.appeal(post, seed), jury[0]);
        for (int i = 0; i < 3; i++) {
            due(when + ": seed " + seed + ", juror " + i, x.postOf(post, 20 + i), jury[i]);
        }
    }

    /** By hand: the upper halves of s, their rests by 4, 3 and 2, and so who is drawn of 2, 3, 4 and 5. */
    private static void thirtyTwoBitsWrapAround() {
        CHECKS.of("Terms III", "s becomes s * 1103515245 + 12345 (32 bits)");
        // 12345; 13622895711870, of which 32 bits leave 3554416254; 2802067423. Halves: 0, 54236, 42756
        juryIs("seed 0", forumWithHidden(), 0, 0, 2, 5, 3);
        // halves: 16838, 38526, 10113
        juryIs("seed 1", forumWithHidden(), 0, 1, 4, 2, 5);
        // halves: 48697, 4409, 9862
        juryIs("seed -1", forumWithHidden(), 0, -1, 3, 5, 2);
        // halves: 15929, 37177, 42630
        juryIs("the greatest seed", forumWithHidden(), 0, MAX, 3, 4, 2);
        // halves: 32768, 21468, 9988
        juryIs("the least seed", forumWithHidden(), 0, MIN, 2, 3, 4);
    }

    /** The first s of these seeds is 2^31 or more: as a number with a sign it would be below 0. */
    private static void theSeedsUpperHalfHasNoSign() {
        CHECKS.of("Terms III", "place (s &gt;&gt;&gt; 16) % (how many are left) of the POOL is drawn");
        int found = 0;
        for (int seed = 0; seed < 200; seed++) {
            if (seed * 1103515245 + 12345 < 0) {
                found++;
                juryIs("no sign", forumWithHidden(), 0, seed, juryOf(seed, 2, 3, 4, 5));
            }
        }
        due("there are such seeds", found > 50, true);
    }

    private static void juriesOfFour() {
        CHECKS.of("Terms III", "JURY: three times, with s the told seed at first");
        for (int seed : EDGE_SEEDS) {
            juryIs("four", forumWithHidden(), 0, seed, juryOf(seed, 2, 3, 4, 5));
        }
        Random random = new Random(4);
        for (int k = 0; k < 500; k++) {
            int seed = random.nextInt();
            juryIs("four", forumWithHidden(), 0, seed, juryOf(seed, 2, 3, 4, 5));
        }
    }

    private static void juriesOfThree() {
        CHECKS.of("Terms III", "the POOL is the people, by rising numbers");
        Random random = new Random(3);
        for (int k = 0; k < 500; k++) {
            int seed = k < EDGE_SEEDS.length ? EDGE_SEEDS[k] : random.nextInt();
            Forum x = Scene.forum(6);
            bound(x, 30, 2);
            x.post(2, NONE);
            x.hide(4, 0);
            x.hide(1, 0);
            juryIs("three", x, 0, seed, juryOf(seed, 0, 3, 5));
        }
    }

    private static void theJuryAreThree() {
        CHECKS.of("Promise 12", "20 + i: the i-th of the JURY (NONE).");
        Forum x = forumWithHidden();
        for (int what = 20; what <= 22; what++) {
            due("no JURY before the APPEAL", x.postOf(0, what), NONE);
        }
        x.appeal(0, 1);
        due("before the first", x.postOf(0, 19), NONE);
        due("the first", x.postOf(0, 20), 4);
        due("the second", x.postOf(0, 21), 2);
        due("the third", x.postOf(0, 22), 5);
        due("behind the third", x.postOf(0, 23), NONE);
        for (int what = 20; what <= 22; what++) {
            due("no JURY of another post", x.postOf(1, what), NONE);
        }
    }

    private static void theJuryStaysWhenItIsOver() {
        CHECKS.of("Promise 12", "20 + i: the i-th of the JURY (NONE).");
        for (boolean stays : new boolean[] {false, true}) {
            Forum x = forumWithAppeal(1);
            sayAll(x, 0, stays, stays);
            due("the first", x.postOf(0, 20), 4);
            due("the second", x.postOf(0, 21), 2);
            due("the third", x.postOf(0, 22), 5);
        }
    }

    private static void eachOfTheJurySaysOnce() {
        CHECKS.of("Terms III", "Each of the JURY says once whether it stays HIDDEN");
        for (boolean first : new boolean[] {false, true}) {
            for (boolean again : new boolean[] {false, true}) {
                Forum x = forumWithAppeal(1);
                due("4 says " + first, x.say(0, 4, first), 1);
                due("4 says " + again + " again", x.say(0, 4, again), NONE);
                due("it goes on", x.postOf(0, 10), 1);
                due("hidden still", x.postOf(0, 8), 1);
                due("2 says otherwise", x.say(0, 2, !first), 1);
                due("2 says " + again + " again", x.say(0, 2, again), NONE);
                due("5 decides", x.say(0, 5, first), first ? 3 : 2);
            }
        }
    }

    private static void twoOfThreeDecide() {
        CHECKS.of("Terms III", "two that say no give it back, two that say yes keep it HIDDEN: the APPEAL is over.");
        int[][] orders = {{2, 4, 5}, {2, 5, 4}, {4, 2, 5}, {4, 5, 2}, {5, 2, 4}, {5, 4, 2}};
        for (int[] order : orders) {
            for (int words = 0; words < 8; words++) {
                Forum x = forumWithAppeal(1);
                int yes = 0;
                int no = 0;
                for (int i = 0; i < 3; i++) {
                    boolean stays = (words >> i & 1) == 1;
                    boolean wasOver = yes == 2 || no == 2;
                    yes += stays && !wasOver ? 1 : 0;
                    no += stays || wasOver ? 0 : 1;
                    int standing = no == 2 ? 2 : yes == 2 ? 3 : 1;
                    String when = order[i] + " says " + stays + " behind " + i;
                    due(when, x.say(0, order[i], stays), wasOver ? NONE : standing);
                    due(when + ": the appeal", x.postOf(0, 10), standing);
                    due(when + ": hidden", x.postOf(0, 8), standing == 2 ? 0 : 1);
                }
            }
        }
    }

    private static void onlyTheJurySays() {
        CHECKS.of("Promise 16", "not of the JURY");
        Forum x = forumWithAppeal(1);
        for (int person : new int[] {0, 1, 3, 6, 7, -1, 32 + 2, 32 + 4, 2 - 32, MIN, MAX}) {
            due("say(0, " + person + ", false)", x.say(0, person, false), NONE);
            due("say(0, " + person + ", true)", x.say(0, person, true), NONE);
        }
        due("it goes on", x.postOf(0, 10), 1);
        due("no post behind the last", x.say(6, 4, false), NONE);
        due("no post before the first", x.say(-1, 4, false), NONE);
        due("no appeal of the post", x.say(1, 4, false), NONE);
        due("one of the JURY", x.say(0, 4, false), 1);
    }

    private static void givenBackIsShown() {
        CHECKS.of("Terms III", "two that say no give it back");
        Forum x = forumWithAppeal(1);
        due("list() while it is hidden", x.list(), 5);
        due("one no", sayAll(x, 0, false), 1);
        due("list() of one no", x.list(), 5);
        due("another no", x.say(0, x.postOf(0, 21), false), 2);
        due("list() when it is back", x.list(), 6);
        due("listed(0)", x.listed(0), 0);
        due("no further appeal", x.appeal(0, 1), NONE);
        due("no further word", x.say(0, x.postOf(0, 22), true), NONE);
        due("given back", x.postOf(0, 10), 2);
    }

    private static void keptHiddenIsNot() {
        CHECKS.of("Terms III", "two that say yes keep it HIDDEN");
        Forum x = forumWithAppeal(1);
        due("two yes", sayAll(x, 0, true, true), 3);
        due("list()", x.list(), 5);
        due("listed(0)", x.listed(0), 1);
        due("no further appeal", x.appeal(0, 1), NONE);
        due("no further word", x.say(0, x.postOf(0, 22), false), NONE);
        due("kept hidden", x.postOf(0, 10), 3);
    }
}
