import java.util.List;
import java.util.function.Consumer;

/** A forum that can be made anew as often as a test wants it. */
final class Scene {
    private static final int NONE = ForumWeights.NONE;

    final String name;
    final int people;
    final int posts;
    private final Consumer<Forum> calls;
    private List<String> whole;

    private Scene(String name, int people, int posts, Consumer<Forum> calls) {
        this.name = name;
        this.people = people;
        this.posts = posts;
        this.calls = calls;
    }

    Forum make() {
        Forum x = new RealForum();
        calls.accept(x);
        return x;
    }

    /** All that it answers; found out once. */
    List<String> whole() {
        if (whole == null) {
            whole = Whole.of(this::make);
        }
        return whole;
    }

    static void people(Forum x, int many) {
        for (int p = 0; p < many; p++) {
            x.person();
        }
    }

    static void posts(Forum x, int many, int author, int answers) {
        for (int k = 0; k < many; k++) {
            x.post(author, answers);
        }
    }

    static Forum forum(int people) {
        Forum x = new RealForum();
        people(x, people);
        return x;
    }

    /** Post p is that of person p, and answers none. */
    static Forum forumWithAPostEach(int people) {
        Forum x = forum(people);
        for (int p = 0; p < people; p++) {
            x.post(p, NONE);
        }
        return x;
    }

    static Scene empty() {
        return new Scene("the empty forum", 0, 0, x -> { });
    }

    static Scene alone() {
        return new Scene("the forum of one", 1, 1, x -> {
            x.person();
            x.post(0, NONE);
        });
    }

    /**
     * Five people, nine posts. Post 2: an appeal goes on, and one of the jury has said. 3: hidden, with no
     * appeal. 4: given back. 5: kept hidden. 6: hidden, with a pool that is too small. 7: one vote. 0, 1
     * and 6 are one tree.
     */
    static Scene some() {
        return new Scene("the forum of five", 5, 9, x -> {
            people(x, 5);
            x.hour(3);
            x.rules(40, 150, 1, 3, 2);
            x.post(0, NONE);
            x.post(1, 0);
            x.post(2, NONE);
            x.post(3, NONE);
            x.post(4, NONE);
            x.post(0, NONE);
            x.hour(30);
            x.post(1, 1);
            x.post(2, NONE);
            x.post(3, NONE);
            markSome(x);
            x.pin(1, true);
            x.pin(8, true);
            hideSome(x);
            x.rules(40, 150, 2, 3, 2);
            x.hide(3, 7);
            x.hour(55);
        });
    }

    private static void markSome(Forum x) {
        x.mark(2, 0, 1);
        x.mark(3, 1, -1);
        x.mark(4, 1, 1);
        x.mark(1, 7, -1);
        x.mark(0, 8, 1);
        x.mark(4, 8, 1);
        x.mark(2, 8, -1);
    }

    private static void hideSome(Forum x) {
        x.hide(0, 2);
        x.appeal(2, 9);
        x.say(2, x.postOf(2, 20), true);
        x.hide(0, 3);
        x.hide(0, 4);
        x.appeal(4, 9);
        x.say(4, x.postOf(4, 21), false);
        x.say(4, x.postOf(4, 20), false);
        x.hide(1, 5);
        x.appeal(5, 9);
        x.say(5, x.postOf(5, 21), true);
        x.say(5, x.postOf(5, 22), true);
        x.hide(0, 6);
    }

    /**
     * Six people, 40 posts, the last hour. Posts 0 to 5 stand alone, each by the person of its number; 6 to
     * 39 are one chain. Post 0: an appeal goes on, with one of the pool out of the jury. 1: hidden.
     */
    static Scene full() {
        return new Scene("the full forum", 6, 40, x -> {
            people(x, 6);
            x.rules(50, 999, 1, 20, 100);
            for (int post = 0; post < 40; post++) {
                x.hour(post * 250);
                x.post(post % 6, post <= 6 ? NONE : post - 1);
            }
            x.hour(10000);
            for (int post = 6; post < 40; post++) {
                x.mark((post + 1) % 6, post, 1);
                x.mark((post + 2 + post / 7) % 6, post, post % 4 == 0 ? 1 : -1);
            }
            x.pin(39, true);
            x.hide(1, 0);
            x.appeal(0, 1);
            x.hide(0, 1);
        });
    }
}
