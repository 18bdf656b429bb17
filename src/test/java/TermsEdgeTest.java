/**
 * The boundaries that part I of the document's terms and promises 1 to 8, 12 and 20 name: people, posts,
 * hours, rules, marks and pins. What is refused outside of them is in RefusalTest too, with all that must
 * not change.
 */
public final class TermsEdgeTest {
    private static final int NONE = ForumWeights.NONE;

    private static final Checks CHECKS = new Checks("TermsEdgeTest");

    private TermsEdgeTest() {
    }

    public static void main(String[] args) {
        noneIsMinusOne();
        aNewObjectIsEmpty();
        aNewObjectHasItsRules();
        objectsShareNothing();
        call512IsAnsweredToo();
        peopleAreNoughtToFive();
        sixthPersonIsTheLast();
        onlyThoseWhoAreThereCount();
        postsAreNoughtToThirtyNine();
        fortiethPostIsTheLast();
        lastPostIsLikeAnother();
        hoursAreNoughtToTenThousand();
        theClockMayStandStill();
        theClockNeverGoesBack();
        aPostHasTheHourItWasWrittenAt();
        aPostAnswersOneOrNone();
        aPostMayNotAnswerItself();
        theRootIsItselfOrThatOfTheAnswered();
        eachRuleHasItsLeastAndMost();
        oneWrongRuleRefusesAll();
        theLatestMarkHolds();
        marksAreUpDownOrNone();
        aPostHasFiveMarksAtMost();
        nobodyMarksOnesOwn();
        takingBackTellsHowMany();
        takingBackLeavesTheOthers();
        pinnedOrNot();
        postOfTellsWhatItNames();
        aboutTellsWhatItNames();
        CHECKS.end();
    }

    private static void due(String call, long got, long want) {
        CHECKS.due(call, got, want);
    }

    private static void due(String call, boolean got, boolean want) {
        CHECKS.due(call, got, want);
    }

    private static void aboutIs(String when, Forum x, int... want) {
        for (int what = 0; what < want.length; what++) {
            due(when + " about(" + what + ")", x.about(what), want[what]);
        }
    }

    private static void noneIsMinusOne() {
        CHECKS.of("Terms", "NONE = -1");
        due("NONE", NONE, -1);
    }

    private static void aNewObjectIsEmpty() {
        CHECKS.of("Promise 1", "Nobody, no posts, hour 0");
        Forum x = new RealForum();
        aboutIs("new:", x, 0, 0, 0);
        due("lower() of nobody", x.lower(), 1);
        due("upper(0) of nobody", x.upper(0), NONE);
        due("weight(0) of no post", x.weight(0), 0);
        due("postOf(0, 0) of no post", x.postOf(0, 0), NONE);
        due("list() of no post", x.list(), 0);
        due("listed(0) of no post", x.listed(0), NONE);
        due("tree(0, 0) of no post", x.tree(0, 0), NONE);
        due("takeBack(0) by nobody", x.takeBack(0), NONE);
        due("hour(0) is not earlier", x.hour(0), true);
        due("the first person", x.person(), 0);
        due("the first post", x.post(0, NONE), 0);
        due("its hour", x.postOf(0, 1), 0);
    }

    private static void aNewObjectHasItsRules() {
        CHECKS.of("Promise 1", "DAMP 30, RISK 100, BOUND 2, QUOTA 0, AGEING 1.");
        Forum x = Scene.forumWithAPostEach(6);
        aboutIs("new:", x, 6, 6, 0, 30, 100, 2, 0, 1);
        due("RISK 100", x.sure(1, 0), 10);
        due("QUOTA 0", x.listed(1), 1);
        x.hide(1, 0);
        due("BOUND 2 is more than 1", x.postOf(0, 8), 0);
        x.hide(2, 0);
        due("BOUND 2 is not more than 2", x.postOf(0, 8), 1);
        x.hour(24);
        due("AGEING 1", x.postOf(1, 11), -1);
        x.mark(3, 4, 1);
        due("DAMP 30", x.upper(4) * 10, x.lower() * 13);
    }

    private static void objectsShareNothing() {
        CHECKS.of("Promise 1", "Nobody, no posts");
        Forum before = Scene.full().make();
        Forum x = new RealForum();
        aboutIs("new beside a full one:", x, 0, 0, 0, 30, 100, 2, 0, 1);
        due("person() beside a full one", x.person(), 0);
        due("post() beside a full one", x.post(0, NONE), 0);
        due("listed(0) beside a full one", x.listed(0), 0);
        due("the full one's people", before.about(0), 6);
        due("the full one's posts", before.about(1), 40);
    }

    /** 6 + 40 + 3 * 155 calls, and one more. */
    private static void call512IsAnsweredToo() {
        CHECKS.of("What it is", "An object is used for at most 512 calls after it has been made");
        Forum x = Scene.forum(6);
        Scene.posts(x, 40, 0, NONE);
        for (int k = 0; k < 155; k++) {
            due("mark " + k, x.mark(1 + k % 5, k / 5, k % 3 == 0 ? -1 : 1), true);
            due("hour " + k, x.hour(k), true);
            due("listed(39) " + k, x.listed(39) != NONE, true);
        }
        due("call 512: the 155 marks are 31 of each", x.takeBack(5), 31);
    }

    private static void peopleAreNoughtToFive() {
        CHECKS.of("Terms", "PEOPLE 0 .. 5.");
        Forum x = new RealForum();
        for (int p = 0; p <= 5; p++) {
            due("about(0) before", x.about(0), p);
            due("person()", x.person(), p);
            due("about(0) behind", x.about(0), p + 1);
        }
    }

    private static void sixthPersonIsTheLast() {
        CHECKS.of("Promise 2", "NONE if there are 6.");
        Forum five = Scene.forum(5);
        due("the sixth person()", five.person(), 5);
        due("the seventh person()", five.person(), NONE);
        due("about(0) then", five.about(0), 6);
        for (int more = 0; more < 40; more++) {
            due("person() of six", five.person(), NONE);
        }
        due("about(0) in the end", five.about(0), 6);
        due("lower() of six", five.lower(), 1_000_000_000_000L);
    }

    /** For every count of people: the last one may do all, the next one nothing. */
    private static void onlyThoseWhoAreThereCount() {
        CHECKS.of("Promises 5, 6, 7, 10 and 14", "others; there is none such");
        for (int people = 2; people <= 6; people++) {
            Forum x = Scene.forumWithAPostEach(people);
            int last = people - 1;
            due("post by the next one of " + people, x.post(people, NONE), NONE);
            due("mark by the next one of " + people, x.mark(people, 0, 1), false);
            due("takeBack by the next one of " + people, x.takeBack(people), NONE);
            due("upper of the next one of " + people, x.upper(people), NONE);
            due("hide by the next one of " + people, x.hide(people, 0), false);
            due("post by the last one of " + people, x.post(last, NONE), people);
            due("mark by the last one of " + people, x.mark(last, 0, 1), true);
            due("takeBack by the last one of " + people, x.takeBack(last), 1);
            due("upper of the last one of " + people, x.upper(last), x.lower());
            due("hide by the last one of " + people, x.hide(last, 0), true);
        }
    }

    private static void postsAreNoughtToThirtyNine() {
        CHECKS.of("Terms", "POSTS 0 .. 39");
        Forum x = Scene.forum(1);
        for (int number = 0; number <= 39; number++) {
            due("about(1) before", x.about(1), number);
            due("postOf before it is written", x.postOf(number, 0), NONE);
            due("post()", x.post(0, NONE), number);
            due("postOf when it is written", x.postOf(number, 0), 0);
        }
    }

    private static void fortiethPostIsTheLast() {
        CHECKS.of("Promise 5", "or if there are 40.");
        Forum x = Scene.forum(6);
        Scene.posts(x, 39, 0, NONE);
        due("the 40th post", x.post(5, 38), 39);
        for (int author = 0; author < 6; author++) {
            due("the 41st post, answering none", x.post(author, NONE), NONE);
            due("the 41st post, an answer", x.post(author, 39), NONE);
        }
        due("about(1)", x.about(1), 40);
        due("list()", x.list(), 40);
        due("postOf(40, 0)", x.postOf(40, 0), NONE);
    }

    private static void lastPostIsLikeAnother() {
        CHECKS.of("Terms", "POSTS 0 .. 39");
        Forum x = Scene.forum(6);
        Scene.posts(x, 40, 5, NONE);
        x.rules(30, 100, 1, 0, 1);
        due("mark(0, 39, 1)", x.mark(0, 39, 1), true);
        due("mark(0, 40, 1)", x.mark(0, 40, 1), false);
        due("weight(39)", x.weight(39), 1_000_000_000_000L);
        due("weight(40)", x.weight(40), 0);
        due("takeBack(0)", x.takeBack(0), 1);
        due("pin(39, true)", x.pin(39, true), true);
        due("pin(40, true)", x.pin(40, true), false);
        due("listed(0)", x.listed(0), 39);
        due("listed(39)", x.listed(39), 38);
        due("listed(40)", x.listed(40), NONE);
        due("tree(39, 0)", x.tree(39, 0), 39);
        due("tree(40, 0)", x.tree(40, 0), NONE);
        due("hide(0, 39)", x.hide(0, 39), true);
        due("hide(0, 40)", x.hide(0, 40), false);
        due("appeal(40, 0)", x.appeal(40, 0), NONE);
        due("appeal(39, 0)", x.appeal(39, 0), 1);
        due("say(40, 1, false)", x.say(40, 1, false), NONE);
        due("say(39, 1, false)", x.say(39, 1, false), 1);
    }

    private static void hoursAreNoughtToTenThousand() {
        CHECKS.of("Terms", "an hour (0 .. 10000");
        Forum x = new RealForum();
        due("hour(-1)", x.hour(-1), false);
        due("hour(10001)", x.hour(10001), false);
        due("about(2) at first", x.about(2), 0);
        due("hour(0)", x.hour(0), true);
        due("hour(1)", x.hour(1), true);
        due("hour(9999)", x.hour(9999), true);
        due("hour(10000)", x.hour(10000), true);
        due("about(2) at last", x.about(2), 10000);
        due("hour(10001) at last", x.hour(10001), false);
        due("about(2) still", x.about(2), 10000);
        Forum y = new RealForum();
        due("hour(10000) at once", y.hour(10000), true);
        due("about(2) at once", y.about(2), 10000);
    }

    private static void theClockMayStandStill() {
        CHECKS.of("Promise 3", "False for others, or an earlier one.");
        Forum x = new RealForum();
        for (int h : new int[] {0, 1, 24, 10000}) {
            due("hour(" + h + ")", x.hour(h), true);
            due("hour(" + h + ") again", x.hour(h), true);
            due("about(2)", x.about(2), h);
        }
    }

    private static void theClockNeverGoesBack() {
        CHECKS.of("Promise 3", "or an earlier one.");
        Forum x = new RealForum();
        for (int h : new int[] {1, 24, 500, 10000}) {
            x.hour(h);
            due("hour(" + (h - 1) + ") at " + h, x.hour(h - 1), false);
            due("hour(0) at " + h, x.hour(0), false);
            due("about(2)", x.about(2), h);
        }
    }

    private static void aPostHasTheHourItWasWrittenAt() {
        CHECKS.of("Terms", "that of the clock when it is written");
        Forum x = Scene.forum(1);
        x.post(0, NONE);
        x.hour(9999);
        x.post(0, NONE);
        x.hour(9998);
        x.post(0, 0);
        x.hour(10000);
        x.post(0, NONE);
        int[] want = {0, 9999, 9999, 10000};
        for (int post = 0; post < want.length; post++) {
            due("postOf(" + post + ", 1)", x.postOf(post, 1), want[post]);
        }
    }

    private static void aPostAnswersOneOrNone() {
        CHECKS.of("Promise 5", "A post, answering one or (NONE) none: its number.");
        Forum x = Scene.forum(2);
        due("post(0, NONE)", x.post(0, NONE), 0);
        due("what it answers", x.postOf(0, 2), NONE);
        due("post(1, 0), the first", x.post(1, 0), 1);
        due("what it answers", x.postOf(1, 2), 0);
        due("post(0, 1), the last", x.post(0, 1), 2);
        due("what it answers", x.postOf(2, 2), 1);
        due("post(0, 2), one's own", x.post(0, 2), 3);
        due("what it answers", x.postOf(3, 2), 2);
        due("post(0, -2)", x.post(0, -2), NONE);
        due("about(1)", x.about(1), 4);
    }

    private static void aPostMayNotAnswerItself() {
        CHECKS.of("Promise 5", "NONE for others");
        Forum x = Scene.forum(1);
        for (int number = 0; number < 39; number++) {
            due("post(0, " + number + ") of itself", x.post(0, number), NONE);
            due("post(0, " + (number + 1) + ") of the next", x.post(0, number + 1), NONE);
            due("post(0, " + (number - 1) + ") of the one before", x.post(0, number - 1), number);
        }
    }

    private static void theRootIsItselfOrThatOfTheAnswered() {
        CHECKS.of("Terms", "itself, if it answers none, else that of the one it answers.");
        Forum x = Scene.forum(1);
        int[] answers = {NONE, NONE, 0, 1, 2, 3, NONE, 4, 6, 0};
        int[] roots = {0, 1, 0, 1, 0, 1, 6, 0, 6, 0};
        for (int post = 0; post < answers.length; post++) {
            x.post(0, answers[post]);
            due("postOf(" + post + ", 3)", x.postOf(post, 3), roots[post]);
        }
        Forum deep = Scene.forum(1);
        deep.post(0, NONE);
        for (int post = 1; post < 40; post++) {
            deep.post(0, post == 1 ? NONE : post - 1);
        }
        due("the root before the chain", deep.postOf(0, 3), 0);
        due("the chain's head", deep.postOf(1, 3), 1);
        due("the chain's end", deep.postOf(39, 3), 1);
    }

    private static void eachRuleHasItsLeastAndMost() {
        CHECKS.of("Promise 4", "DAMP, RISK, BOUND, QUOTA (0 .. 20), AGEING: true.");
        int[] most = {50, 999, 40, 20, 100};
        for (int k = 0; k < most.length; k++) {
            for (int value : new int[] {0, 1, most[k] - 1, most[k]}) {
                Forum x = new RealForum();
                int[] r = {7, 70, 17, 3, 9};
                r[k] = value;
                due("rules with " + value + " at " + k, x.rules(r[0], r[1], r[2], r[3], r[4]), true);
                aboutIs("rules with " + value + " at " + k, x, 0, 0, 0, r[0], r[1], r[2], r[3], r[4]);
            }
        }
    }

    private static void oneWrongRuleRefusesAll() {
        CHECKS.of("Promise 4", "False, changing nothing, for others.");
        int[] most = {50, 999, 40, 20, 100};
        for (int k = 0; k < most.length; k++) {
            for (int value : new int[] {-1, most[k] + 1}) {
                Forum x = new RealForum();
                int[] r = {7, 70, 17, 3, 9};
                r[k] = value;
                due("rules with " + value + " at " + k, x.rules(r[0], r[1], r[2], r[3], r[4]), false);
                aboutIs("rules with " + value + " at " + k, x, 0, 0, 0, 30, 100, 2, 0, 1);
            }
        }
    }

    private static void marksAre(String when, Forum x, int post, int ups, int downs) {
        due(when + ": ups of " + post, x.postOf(post, 4), ups);
        due(when + ": downs of " + post, x.postOf(post, 5), downs);
    }

    private static void theLatestMarkHolds() {
        CHECKS.of("Terms", "up, down, or none; the latest holds.");
        for (int before = -1; before <= 1; before++) {
            for (int then = -1; then <= 1; then++) {
                Forum x = Scene.forumWithAPostEach(2);
                due("mark " + before, x.mark(1, 0, before), true);
                due("mark " + then, x.mark(1, 0, then), true);
                marksAre(before + " then " + then, x, 0, then == 1 ? 1 : 0, then == -1 ? 1 : 0);
                marksAre("the other post", x, 1, 0, 0);
                due("takeBack", x.takeBack(1), then == 0 ? 0 : 1);
            }
        }
    }

    private static void marksAreUpDownOrNone() {
        CHECKS.of("Promise 6", "up (1), down (-1), none (0): true. False: others");
        for (int how = -3; how <= 3; how++) {
            Forum x = Scene.forumWithAPostEach(2);
            due("mark " + how, x.mark(1, 0, how), how >= -1 && how <= 1);
            marksAre("mark " + how, x, 0, how == 1 ? 1 : 0, how == -1 ? 1 : 0);
        }
    }

    private static void aPostHasFiveMarksAtMost() {
        CHECKS.of("Terms", "MARKS: of a person on another one's post");
        for (int ups = 0; ups <= 5; ups++) {
            Forum x = Scene.forumWithAPostEach(6);
            for (int person = 1; person <= 5; person++) {
                x.mark(person, 0, person <= ups ? 1 : -1);
            }
            due("mark by the author", x.mark(0, 0, 1), false);
            due("mark by a seventh", x.mark(6, 0, 1), false);
            marksAre("five marks", x, 0, ups, 5 - ups);
            due("SURE", x.postOf(0, 6), x.sure(ups, 5 - ups));
        }
    }

    private static void nobodyMarksOnesOwn() {
        CHECKS.of("Promise 6", "or one's own post.");
        Forum x = Scene.forumWithAPostEach(6);
        for (int person = 0; person < 6; person++) {
            for (int post = 0; post < 6; post++) {
                due("mark(" + person + ", " + post + ", 1)", x.mark(person, post, 1), person != post);
            }
        }
        for (int post = 0; post < 6; post++) {
            marksAre("all but one's own", x, post, 5, 0);
        }
    }

    private static void takingBackTellsHowMany() {
        CHECKS.of("Promise 7", "All MARKS of a person are taken back: how many there were.");
        Forum x = Scene.forum(2);
        Scene.posts(x, 40, 1, NONE);
        due("takeBack of none", x.takeBack(0), 0);
        for (int post = 0; post < 40; post++) {
            x.mark(0, post, post % 2 == 0 ? 1 : -1);
        }
        x.mark(0, 5, 0);
        due("takeBack of 39", x.takeBack(0), 39);
        due("takeBack again", x.takeBack(0), 0);
        for (int post = 0; post < 40; post++) {
            marksAre("taken back", x, post, 0, 0);
        }
        for (int post = 0; post < 40; post++) {
            x.mark(0, post, 1);
        }
        due("takeBack of 40", x.takeBack(0), 40);
        due("takeBack(2) by none such", x.takeBack(2), NONE);
    }

    private static void takingBackLeavesTheOthers() {
        CHECKS.of("Promise 7", "All MARKS of a person are taken back");
        for (int person = 0; person < 6; person++) {
            Forum x = Scene.forumWithAPostEach(6);
            for (int p = 0; p < 6; p++) {
                for (int post = 0; post < 6; post++) {
                    x.mark(p, post, p < 3 ? 1 : -1);
                }
            }
            due("takeBack(" + person + ")", x.takeBack(person), 5);
            for (int post = 0; post < 6; post++) {
                int ups = 3 - (post < 3 ? 1 : 0) - (person < 3 && person != post ? 1 : 0);
                int downs = 3 - (post >= 3 ? 1 : 0) - (person >= 3 && person != post ? 1 : 0);
                marksAre("without those of " + person, x, post, ups, downs);
            }
            for (int p = 0; p < 6; p++) {
                due("then takeBack(" + p + ")", x.takeBack(p), p == person ? 0 : 5);
            }
        }
    }

    private static void pinnedOrNot() {
        CHECKS.of("Promise 8", "A post is PINNED, or not: true. False: there is none such.");
        Forum x = Scene.forum(1);
        Scene.posts(x, 40, 0, NONE);
        for (int post : new int[] {0, 1, 38, 39}) {
            due("not pinned at first", x.postOf(post, 7), 0);
            due("pin off", x.pin(post, false), true);
            due("not pinned", x.postOf(post, 7), 0);
            due("pin on", x.pin(post, true), true);
            due("pinned", x.postOf(post, 7), 1);
            due("pin on again", x.pin(post, true), true);
            due("pinned still", x.postOf(post, 7), 1);
            due("listed(0)", x.listed(0), post);
            due("pin off again", x.pin(post, false), true);
            due("not pinned any more", x.postOf(post, 7), 0);
        }
        due("pin(-1, true)", x.pin(-1, true), false);
        due("pin(40, true)", x.pin(40, true), false);
    }

    private static void postOfTellsWhatItNames() {
        CHECKS.of("Promise 12", "NONE for others.");
        Forum x = Scene.some().make();
        int[] want = {2, 3, NONE, 2, 0, 0, 0, 0, 1, 1, 1, -4};
        for (int what = 0; what < want.length; what++) {
            due("postOf(2, " + what + ")", x.postOf(2, what), want[what]);
        }
        due("postOf(2, -1)", x.postOf(2, -1), NONE);
        for (int what = 12; what <= 19; what++) {
            due("postOf(2, " + what + ")", x.postOf(2, what), NONE);
        }
        boolean[] drawn = new boolean[6];
        for (int what = 20; what <= 22; what++) {
            drawn[1 + x.postOf(2, what)] = true;
            due("no JURY of 3", x.postOf(3, what), NONE);
        }
        due("the JURY are 1, 3 and 4", drawn[2] && drawn[4] && drawn[5], true);
        due("postOf(2, 23)", x.postOf(2, 23), NONE);
    }

    private static void aboutTellsWhatItNames() {
        CHECKS.of("Promise 20", "NONE for others.");
        Forum x = Scene.full().make();
        aboutIs("full:", x, 6, 40, 10000, 50, 999, 1, 20, 100);
        due("about(-1)", x.about(-1), NONE);
        due("about(8)", x.about(8), NONE);
        Forum y = Scene.some().make();
        aboutIs("some:", y, 5, 9, 55, 40, 150, 2, 3, 2);
    }
}
