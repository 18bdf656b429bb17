import java.util.List;
import java.util.function.ToLongFunction;

/**
 * Every call that the document refuses: its answer, and that nothing at all has changed behind it. Four
 * forums take them: an empty one, that of one person and one post, one in which posts stand in every way
 * they can, and a full one.
 */
public final class RefusalTest {
    private static final int NONE = ForumWeights.NONE;
    private static final int MIN = Integer.MIN_VALUE;
    private static final int MAX = Integer.MAX_VALUE;

    private static final Scene EMPTY = Scene.empty();
    private static final Scene ALONE = Scene.alone();
    private static final Scene SOME = Scene.some();
    private static final Scene FULL = Scene.full();
    private static final List<Scene> ALL = List.of(EMPTY, ALONE, SOME, FULL);

    private static final Checks CHECKS = new Checks("RefusalTest");

    private RefusalTest() {
    }

    public static void main(String[] args) {
        scenesAreAsTold();
        noSeventhPerson();
        noHourOutside();
        noEarlierHour();
        noRulesOutside();
        noPostByNobody();
        noAnswerToNoPost();
        noPostBehindTheLast();
        noMarkByNobody();
        noMarkOnNoPost();
        noMarkOfAnotherKind();
        noMarkOnOnesOwn();
        noTakingBackByNobody();
        noPinOnNoPost();
        noUpperOfNobody();
        noWeightOfNoPost();
        nothingOfNoPost();
        nothingElseOfAPost();
        noSureOfOtherCounts();
        noVoteByNobody();
        noVoteOnNoPost();
        noVoteOnOnesOwn();
        noSecondVote();
        noVoteOnWhatWasHiddenEver();
        noAppealOfNoPost();
        noAppealOfAShownPost();
        noSecondAppeal();
        noAppealWithoutAPool();
        noWordOnNoPost();
        noWordWithoutAnAppealThatGoesOn();
        noWordOfOthersThanTheJury();
        noSecondWord();
        noPlaceOutsideTheList();
        noTreeOfNoRoot();
        noPlaceOutsideTheTree();
        nothingElseAboutIt();
        askingChangesNothing();
        whatIsSoAlreadyChangesNothing();
        CHECKS.end();
    }

    private static void refused(Scene scene, String name, ToLongFunction<Forum> call, long want) {
        String where = "in " + scene.name + " " + name;
        CHECKS.due(where, call.applyAsLong(scene.make()), want);
        List<String> behind = Whole.of(() -> {
            Forum x = scene.make();
            call.applyAsLong(x);
            return x;
        });
        CHECKS.same(where + " changed something", behind, scene.whole());
    }

    private static void refusedEverywhere(String name, ToLongFunction<Forum> call, long want) {
        for (Scene scene : ALL) {
            refused(scene, name, call, want);
        }
    }

    private static long bit(boolean answer) {
        return answer ? 1 : 0;
    }

    /** Just below, just above, and what a shift by 32 or a sum that wraps around would take for a right one. */
    private static int[] notPeople(Scene scene) {
        return new int[] {-1, scene.people, 6, 7, -2, 32, 33, -32, -33, 64, MIN, MAX};
    }

    private static int[] notPosts(Scene scene) {
        return new int[] {-1, scene.posts, 40, 41, -2, -40, 64, MIN, MAX};
    }

    /** So that no refusal passes for the reason alone that a scene is other than it says. */
    private static void scenesAreAsTold() {
        CHECKS.of("RefusalTest", "scenes");
        int[] appeals = {0, 0, 1, 0, 2, 3, 0, 0, 0};
        int[] hidden = {0, 0, 1, 1, 0, 1, 1, 0, 0};
        int[] votes = {0, 0, 1, 1, 1, 1, 1, 1, 0};
        Forum some = SOME.make();
        for (int post = 0; post < SOME.posts; post++) {
            CHECKS.due("appeal of " + post, some.postOf(post, 10), appeals[post]);
            CHECKS.due("hidden " + post, some.postOf(post, 8), hidden[post]);
            CHECKS.due("votes on " + post, some.postOf(post, 9), votes[post]);
        }
        Forum full = FULL.make();
        CHECKS.due("the full one's appeal", full.postOf(0, 10), 1);
        CHECKS.due("the full one's hidden post", full.postOf(1, 8), 1);
        for (Scene scene : ALL) {
            CHECKS.due(scene.name + " people", scene.make().about(0), scene.people);
            CHECKS.due(scene.name + " posts", scene.make().about(1), scene.posts);
        }
    }

    private static void noSeventhPerson() {
        CHECKS.of("Promise 2", "NONE if there are 6.");
        refused(FULL, "person()", x -> x.person(), NONE);
    }

    private static void noHourOutside() {
        CHECKS.of("Promise 3", "False for others");
        for (int h : new int[] {-1, 10001, -10000, 10024, MIN, MAX}) {
            refusedEverywhere("hour(" + h + ")", x -> bit(x.hour(h)), 0);
        }
    }

    private static void noEarlierHour() {
        CHECKS.of("Promise 3", "or an earlier one.");
        for (int h : new int[] {0, 1, 30, 54}) {
            refused(SOME, "hour(" + h + ") at 55", x -> bit(x.hour(h)), 0);
        }
        refused(FULL, "hour(9999) at 10000", x -> bit(x.hour(9999)), 0);
    }

    private static void noRulesOutside() {
        CHECKS.of("Promise 4", "False, changing nothing, for others.");
        int[] most = {50, 999, 40, 20, 100};
        for (int k = 0; k < most.length; k++) {
            for (int wrong : new int[] {-1, most[k] + 1, MIN, MAX}) {
                int[] r = {1, 2, 3, 4, 5};
                r[k] = wrong;
                refusedEverywhere("rules with " + wrong + " at " + k,
                        x -> bit(x.rules(r[0], r[1], r[2], r[3], r[4])), 0);
            }
        }
        refusedEverywhere("rules, all too small", x -> bit(x.rules(-1, -1, -1, -1, -1)), 0);
        refusedEverywhere("rules, all too large", x -> bit(x.rules(51, 1000, 41, 21, 101)), 0);
    }

    private static void noPostByNobody() {
        CHECKS.of("Promise 5", "NONE for others");
        for (Scene scene : ALL) {
            for (int author : notPeople(scene)) {
                refused(scene, "post(" + author + ", NONE)", x -> x.post(author, NONE), NONE);
                refused(scene, "post(" + author + ", 0)", x -> x.post(author, 0), NONE);
            }
        }
    }

    private static void noAnswerToNoPost() {
        CHECKS.of("Promise 5", "A post, answering one or (NONE) none");
        for (Scene scene : ALL) {
            for (int answers : notPosts(scene)) {
                if (answers != NONE) {
                    refused(scene, "post(0, " + answers + ")", x -> x.post(0, answers), NONE);
                }
            }
        }
    }

    private static void noPostBehindTheLast() {
        CHECKS.of("Promise 5", "or if there are 40.");
        for (int author = 0; author < 6; author++) {
            int by = author;
            refused(FULL, "post(" + by + ", NONE)", x -> x.post(by, NONE), NONE);
        }
        refused(FULL, "post(0, 0)", x -> x.post(0, 0), NONE);
        refused(FULL, "post(0, 39)", x -> x.post(0, 39), NONE);
    }

    private static void noMarkByNobody() {
        CHECKS.of("Promise 6", "False: others");
        for (Scene scene : ALL) {
            for (int person : notPeople(scene)) {
                for (int how = -1; how <= 1; how++) {
                    int mark = how;
                    refused(scene, "mark(" + person + ", 0, " + mark + ")", x -> bit(x.mark(person, 0, mark)), 0);
                }
            }
        }
    }

    private static void noMarkOnNoPost() {
        CHECKS.of("Promise 6", "False: others");
        for (Scene scene : ALL) {
            for (int post : notPosts(scene)) {
                refused(scene, "mark(0, " + post + ", 1)", x -> bit(x.mark(0, post, 1)), 0);
                refused(scene, "mark(0, " + post + ", 0)", x -> bit(x.mark(0, post, 0)), 0);
            }
        }
    }

    private static void noMarkOfAnotherKind() {
        CHECKS.of("Promise 6", "up (1), down (-1), none (0)");
        for (int how : new int[] {-2, 2, 3, 256, -256, MIN, MAX}) {
            refused(SOME, "mark(2, 0, " + how + ") where it is up", x -> bit(x.mark(2, 0, how)), 0);
            refused(SOME, "mark(3, 1, " + how + ") where it is down", x -> bit(x.mark(3, 1, how)), 0);
            refused(SOME, "mark(3, 0, " + how + ") where none is", x -> bit(x.mark(3, 0, how)), 0);
            refused(FULL, "mark(1, 39, " + how + ")", x -> bit(x.mark(1, 39, how)), 0);
        }
    }

    private static void noMarkOnOnesOwn() {
        CHECKS.of("Promise 6", "or one's own post.");
        for (int how : new int[] {-1, 0, 1, 2}) {
            refused(SOME, "mark(0, 0, " + how + ")", x -> bit(x.mark(0, 0, how)), 0);
            refused(SOME, "mark(3, 8, " + how + ")", x -> bit(x.mark(3, 8, how)), 0);
            refused(FULL, "mark(5, 5, " + how + ")", x -> bit(x.mark(5, 5, how)), 0);
            refused(FULL, "mark(3, 39, " + how + ")", x -> bit(x.mark(3, 39, how)), 0);
        }
    }

    private static void noTakingBackByNobody() {
        CHECKS.of("Promise 7", "NONE: there is none such.");
        for (Scene scene : ALL) {
            for (int person : notPeople(scene)) {
                refused(scene, "takeBack(" + person + ")", x -> x.takeBack(person), NONE);
            }
        }
    }

    private static void noPinOnNoPost() {
        CHECKS.of("Promise 8", "False: there is none such.");
        for (Scene scene : ALL) {
            for (int post : notPosts(scene)) {
                refused(scene, "pin(" + post + ", true)", x -> bit(x.pin(post, true)), 0);
                refused(scene, "pin(" + post + ", false)", x -> bit(x.pin(post, false)), 0);
            }
        }
    }

    private static void noUpperOfNobody() {
        CHECKS.of("Promise 10", "NONE: there is none such.");
        for (Scene scene : ALL) {
            for (int person : notPeople(scene)) {
                refused(scene, "upper(" + person + ")", x -> x.upper(person), NONE);
            }
        }
    }

    private static void noWeightOfNoPost() {
        CHECKS.of("Promise 11", "0 if there is none such.");
        for (Scene scene : ALL) {
            for (int post : notPosts(scene)) {
                refused(scene, "weight(" + post + ")", x -> x.weight(post), 0);
            }
        }
    }

    private static void nothingOfNoPost() {
        CHECKS.of("Promise 12", "NONE for others.");
        for (Scene scene : ALL) {
            for (int post : notPosts(scene)) {
                for (int what : new int[] {0, 1, 2, 3, 4, 5, 6, 7, 8, 9, 10, 11, 20, 21, 22}) {
                    CHECKS.due(scene.name + " postOf(" + post + ", " + what + ")",
                            scene.make().postOf(post, what), NONE);
                }
                refused(scene, "postOf(" + post + ", 0)", x -> x.postOf(post, 0), NONE);
            }
        }
    }

    private static void nothingElseOfAPost() {
        CHECKS.of("Promise 12", "20 + i: the i-th of the JURY (NONE). NONE for others.");
        for (int what : new int[] {-1, 12, 13, 19, 23, 24, 32, 64, -20, MIN, MIN + 20, MIN + 22, MAX}) {
            refused(SOME, "postOf(2, " + what + ")", x -> x.postOf(2, what), NONE);
            refused(SOME, "postOf(0, " + what + ")", x -> x.postOf(0, what), NONE);
            refused(FULL, "postOf(39, " + what + ")", x -> x.postOf(39, what), NONE);
        }
        for (int what = 20; what <= 22; what++) {
            int juror = what;
            refused(SOME, "postOf(3, " + juror + "), no JURY", x -> x.postOf(3, juror), NONE);
        }
    }

    private static void noSureOfOtherCounts() {
        CHECKS.of("Promise 13", "(together 0 .. 6, neither below 0) at the RISK. NONE for others.");
        int[][] wrong = {{0, 7}, {7, 0}, {1, 6}, {6, 1}, {3, 4}, {4, 3}, {-1, 0}, {0, -1}, {-1, 1}, {1, -1}, {7, -1},
            {-1, 7}, {-3, -3}, {MAX, MAX}, {MIN, MIN}, {MAX, MIN}, {MIN, MAX}, {MAX, 1}, {1, MAX}, {MIN, 1}, {0, MIN},
            {MAX, MIN + 4}, {1 << 16, 1 << 16}};
        for (int[] ud : wrong) {
            refusedEverywhere("sure(" + ud[0] + ", " + ud[1] + ")", x -> x.sure(ud[0], ud[1]), NONE);
        }
    }

    private static void noVoteByNobody() {
        CHECKS.of("Promise 14", "False: others");
        for (Scene scene : ALL) {
            for (int person : notPeople(scene)) {
                refused(scene, "hide(" + person + ", 0)", x -> bit(x.hide(person, 0)), 0);
                refused(scene, "hide(" + person + ", 7)", x -> bit(x.hide(person, 7)), 0);
            }
        }
    }

    private static void noVoteOnNoPost() {
        CHECKS.of("Promise 14", "False: others");
        for (Scene scene : ALL) {
            for (int post : notPosts(scene)) {
                refused(scene, "hide(0, " + post + ")", x -> bit(x.hide(0, post)), 0);
            }
        }
    }

    private static void noVoteOnOnesOwn() {
        CHECKS.of("Promise 14", "one's own post");
        refused(SOME, "hide(0, 0)", x -> bit(x.hide(0, 0)), 0);
        refused(SOME, "hide(2, 7) where another voted", x -> bit(x.hide(2, 7)), 0);
        refused(SOME, "hide(2, 2) when it is hidden", x -> bit(x.hide(2, 2)), 0);
        refused(FULL, "hide(5, 5)", x -> bit(x.hide(5, 5)), 0);
        refused(FULL, "hide(3, 39)", x -> bit(x.hide(3, 39)), 0);
    }

    private static void noSecondVote() {
        CHECKS.of("Promise 14", "the person has voted");
        refused(SOME, "hide(3, 7) again", x -> bit(x.hide(3, 7)), 0);
    }

    private static void noVoteOnWhatWasHiddenEver() {
        CHECKS.of("Promise 14", "or it was HIDDEN ever.");
        for (int person = 0; person < 5; person++) {
            int by = person;
            refused(SOME, "hide(" + by + ", 2), an appeal goes on", x -> bit(x.hide(by, 2)), 0);
            refused(SOME, "hide(" + by + ", 3), hidden", x -> bit(x.hide(by, 3)), 0);
            refused(SOME, "hide(" + by + ", 4), given back", x -> bit(x.hide(by, 4)), 0);
            refused(SOME, "hide(" + by + ", 5), kept hidden", x -> bit(x.hide(by, 5)), 0);
        }
    }

    private static void noAppealOfNoPost() {
        CHECKS.of("Promise 15", "NONE: others");
        for (Scene scene : ALL) {
            for (int post : notPosts(scene)) {
                refused(scene, "appeal(" + post + ", 1)", x -> x.appeal(post, 1), NONE);
            }
        }
    }

    private static void noAppealOfAShownPost() {
        CHECKS.of("Promise 15", "it isn't HIDDEN");
        refused(SOME, "appeal(8, 1), no vote", x -> x.appeal(8, 1), NONE);
        refused(SOME, "appeal(7, 1), too few votes", x -> x.appeal(7, 1), NONE);
        refused(SOME, "appeal(4, 1), given back", x -> x.appeal(4, 1), NONE);
        refused(FULL, "appeal(2, 1)", x -> x.appeal(2, 1), NONE);
    }

    private static void noSecondAppeal() {
        CHECKS.of("Promise 15", "had an APPEAL");
        for (int seed : new int[] {0, 1, 9, -1, MIN, MAX}) {
            refused(SOME, "appeal(2, " + seed + "), it goes on", x -> x.appeal(2, seed), NONE);
            refused(SOME, "appeal(4, " + seed + "), given back", x -> x.appeal(4, seed), NONE);
            refused(SOME, "appeal(5, " + seed + "), kept hidden", x -> x.appeal(5, seed), NONE);
            refused(FULL, "appeal(0, " + seed + ")", x -> x.appeal(0, seed), NONE);
        }
    }

    private static void noAppealWithoutAPool() {
        CHECKS.of("Promise 15", "or the POOL is too small.");
        for (int seed : new int[] {0, 1, 9, -1, MIN, MAX}) {
            refused(SOME, "appeal(6, " + seed + ")", x -> x.appeal(6, seed), NONE);
        }
    }

    private static void noWordOnNoPost() {
        CHECKS.of("Promise 16", "NONE: others");
        for (Scene scene : ALL) {
            for (int post : notPosts(scene)) {
                refused(scene, "say(" + post + ", 4, false)", x -> x.say(post, 4, false), NONE);
                refused(scene, "say(" + post + ", 4, true)", x -> x.say(post, 4, true), NONE);
            }
        }
    }

    private static void noWordWithoutAnAppealThatGoesOn() {
        CHECKS.of("Promise 16", "no APPEAL that goes on");
        for (boolean stays : new boolean[] {false, true}) {
            for (int person = 0; person < 5; person++) {
                int by = person;
                for (int post : new int[] {0, 3, 4, 5, 6, 7}) {
                    refused(SOME, "say(" + post + ", " + by + ", " + stays + ")", x -> x.say(post, by, stays), NONE);
                }
            }
            refused(FULL, "say(1, 3, " + stays + ")", x -> x.say(1, 3, stays), NONE);
        }
    }

    private static void noWordOfOthersThanTheJury() {
        CHECKS.of("Promise 16", "not of the JURY");
        Forum full = FULL.make();
        int left = 2 + 3 + 4 + 5 - full.postOf(0, 20) - full.postOf(0, 21) - full.postOf(0, 22);
        for (boolean stays : new boolean[] {false, true}) {
            for (int person : notPeople(SOME)) {
                refused(SOME, "say(2, " + person + ", " + stays + ")", x -> x.say(2, person, stays), NONE);
            }
            for (int person = 0; person < 6; person++) {
                int far = person + 32;
                refused(SOME, "say(2, " + far + ", " + stays + ")", x -> x.say(2, far, stays), NONE);
                refused(SOME, "say(2, " + (far - 64) + ", " + stays + ")", x -> x.say(2, far - 64, stays), NONE);
            }
            refused(SOME, "say(2, 2, " + stays + ") by the author", x -> x.say(2, 2, stays), NONE);
            refused(SOME, "say(2, 0, " + stays + ") by who voted", x -> x.say(2, 0, stays), NONE);
            refused(FULL, "say(0, 0, " + stays + ") by the author", x -> x.say(0, 0, stays), NONE);
            refused(FULL, "say(0, 1, " + stays + ") by who voted", x -> x.say(0, 1, stays), NONE);
            refused(FULL, "say(0, " + left + ", " + stays + ") by who was not drawn",
                    x -> x.say(0, left, stays), NONE);
        }
    }

    private static void noSecondWord() {
        CHECKS.of("Promise 16", "or the person has said.");
        int said = SOME.make().postOf(2, 20);
        for (boolean stays : new boolean[] {false, true}) {
            refused(SOME, "say(2, " + said + ", " + stays + ") again", x -> x.say(2, said, stays), NONE);
        }
    }

    private static void noPlaceOutsideTheList() {
        CHECKS.of("Promise 18", "NONE if there is none such.");
        for (Scene scene : ALL) {
            int end = scene.make().list();
            for (int i : new int[] {-1, end, end + 1, 40, 41, MIN, MAX}) {
                refused(scene, "listed(" + i + ")", x -> x.listed(i), NONE);
            }
        }
    }

    private static void noTreeOfNoRoot() {
        CHECKS.of("Promise 19", "NONE if there is none such, or the post answers one.");
        for (Scene scene : ALL) {
            for (int root : notPosts(scene)) {
                refused(scene, "tree(" + root + ", 0)", x -> x.tree(root, 0), NONE);
            }
        }
        refused(SOME, "tree(1, 0)", x -> x.tree(1, 0), NONE);
        refused(SOME, "tree(6, 0)", x -> x.tree(6, 0), NONE);
        refused(FULL, "tree(7, 0)", x -> x.tree(7, 0), NONE);
        refused(FULL, "tree(39, 0)", x -> x.tree(39, 0), NONE);
    }

    private static void noPlaceOutsideTheTree() {
        CHECKS.of("Promise 19", "NONE if there is none such");
        for (int i : new int[] {-1, 3, 4, 39, 40, MIN, MAX}) {
            refused(SOME, "tree(0, " + i + ") of three", x -> x.tree(0, i), NONE);
        }
        for (int i : new int[] {-1, 34, 39, 40, MIN, MAX}) {
            refused(FULL, "tree(6, " + i + ") of 34", x -> x.tree(6, i), NONE);
        }
        for (int i : new int[] {-1, 1, 2, MIN, MAX}) {
            refused(FULL, "tree(5, " + i + ") of one", x -> x.tree(5, i), NONE);
        }
    }

    private static void nothingElseAboutIt() {
        CHECKS.of("Promise 20", "NONE for others.");
        for (int what : new int[] {-1, 8, 9, 32, MIN, MAX}) {
            refusedEverywhere("about(" + what + ")", x -> x.about(what), NONE);
        }
    }

    private static void askingChangesNothing() {
        CHECKS.of("Promises 9 to 13 and 17 to 20", "asking");
        for (Scene scene : ALL) {
            Forum x = scene.make();
            refused(scene, "lower()", y -> y.lower(), x.lower());
            refused(scene, "upper(0)", y -> y.upper(0), x.upper(0));
            refused(scene, "weight(7)", y -> y.weight(7), x.weight(7));
            refused(scene, "sure(3, 1)", y -> y.sure(3, 1), x.sure(3, 1));
            refused(scene, "list()", y -> y.list(), x.list());
            refused(scene, "listed(1)", y -> y.listed(1), x.listed(1));
            refused(scene, "tree(0, 1)", y -> y.tree(0, 1), x.tree(0, 1));
            refused(scene, "about(2)", y -> y.about(2), x.about(2));
            for (int what = 0; what <= 22; what++) {
                int asked = what;
                refused(scene, "postOf(2, " + asked + ")", y -> y.postOf(2, asked), x.postOf(2, asked));
            }
        }
    }

    private static void whatIsSoAlreadyChangesNothing() {
        CHECKS.of("Promises 3, 4, 6, 7 and 8", "what is so already");
        refused(EMPTY, "hour(0)", x -> bit(x.hour(0)), 1);
        refused(EMPTY, "rules of a new one", x -> bit(x.rules(30, 100, 2, 0, 1)), 1);
        refused(SOME, "hour(55)", x -> bit(x.hour(55)), 1);
        refused(SOME, "the same rules", x -> bit(x.rules(40, 150, 2, 3, 2)), 1);
        refused(SOME, "mark(2, 0, 1)", x -> bit(x.mark(2, 0, 1)), 1);
        refused(SOME, "mark(3, 1, -1)", x -> bit(x.mark(3, 1, -1)), 1);
        refused(SOME, "mark(3, 0, 0)", x -> bit(x.mark(3, 0, 0)), 1);
        refused(SOME, "pin(8, true)", x -> bit(x.pin(8, true)), 1);
        refused(SOME, "pin(0, false)", x -> bit(x.pin(0, false)), 1);
        refused(FULL, "hour(10000)", x -> bit(x.hour(10000)), 1);
        refused(ALONE, "takeBack(0) of none", x -> x.takeBack(0), 0);
    }
}
