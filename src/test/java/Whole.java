import java.util.ArrayList;
import java.util.List;
import java.util.function.Supplier;

/**
 * All that a forum answers, as rows of text that can be held against those of another. What no question
 * tells (who voted, who has said, who is in a pool) is found out by calls that change the forum; so the
 * forum is made anew for each group of questions, and no object is used beyond the document's 512 calls.
 */
final class Whole {
    /** How many calls may make the forum, so that the largest group of questions has room behind them. */
    static final int MOST_CALLS_BEFORE = RealForum.MOST_CALLS - 260;

    private static final int POSTS_OF_A_GROUP = 8;
    private static final int MOST_PLACES = 42;

    private final Supplier<Forum> maker;
    private final List<String> rows = new ArrayList<>();
    private Forum x;

    private Whole(Supplier<Forum> maker) {
        this.maker = maker;
    }

    static List<String> of(Supplier<Forum> maker) {
        Whole whole = new Whole(maker);
        whole.askAll();
        return whole.rows;
    }

    private void askAll() {
        askTheForum();
        int posts = x.about(1);
        for (int first = -1; first <= posts; first += POSTS_OF_A_GROUP) {
            askPosts(first, Math.min(first + POSTS_OF_A_GROUP - 1, posts));
        }
        askTrees(posts);
        tryTakingBack();
        for (int first = 0; first < posts; first += 2 * POSTS_OF_A_GROUP) {
            int last = Math.min(first + 2 * POSTS_OF_A_GROUP, posts) - 1;
            tryVotes(first, last);
            trySaying(first, last, false);
            trySaying(first, last, true);
            tryAppeals(first, last, 1);
            tryAppeals(first, last, -77);
        }
    }

    private void row(String call, long answer) {
        rows.add(call + " answered " + answer);
    }

    private void row(String call, boolean answer) {
        row(call, answer ? 1 : 0);
    }

    private void askTheForum() {
        x = maker.get();
        for (int what = -1; what <= 8; what++) {
            row("about(" + what + ")", x.about(what));
        }
        row("lower()", x.lower());
        for (int person = -1; person <= 6; person++) {
            row("upper(" + person + ")", x.upper(person));
        }
        for (int u = 0; u <= 6; u++) {
            for (int d = 0; d <= 6 - u; d++) {
                row("sure(" + u + ", " + d + ")", x.sure(u, d));
            }
        }
        int listed = x.list();
        row("list()", listed);
        for (int i = -1; i <= listed; i++) {
            row("listed(" + i + ")", x.listed(i));
        }
    }

    private void askPosts(int first, int last) {
        x = maker.get();
        for (int post = first; post <= last; post++) {
            for (int what = -1; what <= 23; what++) {
                row("postOf(" + post + ", " + what + ")", x.postOf(post, what));
            }
            row("weight(" + post + ")", x.weight(post));
        }
    }

    private void askTrees(int posts) {
        x = maker.get();
        for (int root = -1; root <= posts; root++) {
            row("tree(" + root + ", -1)", x.tree(root, -1));
            int found = 0;
            for (int i = 0; i < MOST_PLACES && found != ForumWeights.NONE; i++) {
                found = x.tree(root, i);
                row("tree(" + root + ", " + i + ")", found);
            }
        }
    }

    private void tryTakingBack() {
        x = maker.get();
        for (int person = 0; person < 6; person++) {
            row("then takeBack(" + person + ")", x.takeBack(person));
        }
    }

    private void tryVotes(int first, int last) {
        x = maker.get();
        for (int post = first; post <= last; post++) {
            for (int person = 0; person < 6; person++) {
                row("then hide(" + person + ", " + post + ")", x.hide(person, post));
                row("then postOf(" + post + ", 8)", x.postOf(post, 8));
            }
        }
    }

    private void trySaying(int first, int last, boolean stays) {
        x = maker.get();
        for (int post = first; post <= last; post++) {
            // the last drawn says first, so that the words of those before it show in what it is answered
            for (int what = 22; what >= 20; what--) {
                int person = x.postOf(post, what);
                row("then say(" + post + ", " + person + ", " + stays + ")", x.say(post, person, stays));
            }
            row("then postOf(" + post + ", 8)", x.postOf(post, 8));
        }
    }

    private void tryAppeals(int first, int last, int seed) {
        x = maker.get();
        for (int post = first; post <= last; post++) {
            row("then appeal(" + post + ", " + seed + ")", x.appeal(post, seed));
            for (int what = 20; what <= 22; what++) {
                row("then postOf(" + post + ", " + what + ")", x.postOf(post, what));
            }
        }
    }
}
