import java.util.List;
import java.util.Random;

/** Long runs of calls, the same ones every time: each answer is held against that of PlainForum. */
public final class ModelTest {
    private static final int RUNS = 400;
    private static final int CALLS = 512;
    private static final int[] WILD = {Integer.MIN_VALUE, -33, -32, -2, -1, 6, 7, 23, 31, 32, 33, 40, 64,
        Integer.MAX_VALUE};

    private static final Checks CHECKS = new Checks("ModelTest");

    private final ForumWeights real = new ForumWeights();
    private final PlainForum plain = new PlainForum();
    private final Random random;
    private final int run;
    private final int likeliestBound;
    private final boolean isQuiet;

    private ModelTest(int run) {
        this.run = run;
        this.random = new Random(run);
        this.likeliestBound = 1 + run % 4;
        this.isQuiet = run % 3 == 0;
    }

    public static void main(String[] args) {
        for (int run = 0; run < RUNS; run++) {
            ModelTest test = new ModelTest(run);
            for (int call = 0; call < CALLS; call++) {
                test.callOnce(call);
            }
            test.compareAll();
        }
        CHECKS.end();
    }

    private void due(String call, long got, long want) {
        CHECKS.due("run " + run + ": " + call, got, want);
    }

    private void due(String call, boolean got, boolean want) {
        CHECKS.due("run " + run + ": " + call, got, want);
    }

    /** Mostly a number below a bound, now and then one from far outside. */
    private int some(int bound) {
        return random.nextInt(25) == 0 ? WILD[random.nextInt(WILD.length)] : random.nextInt(bound);
    }

    private int somePost() {
        return some(Math.max(1, plain.about(1)));
    }

    /** A post whose postOf is as told, if a few tries find one: what is rare would hardly be met by chance. */
    private int somePostWith(int what, int value) {
        int post = somePost();
        for (int tries = 0; tries < 60 && plain.postOf(post, what) != value; tries++) {
            post = somePost();
        }
        return post;
    }

    private void callOnce(int call) {
        int kind = call < 6 ? random.nextInt(4) : random.nextInt(40);
        if (kind < 2) {
            due("person()", real.person(), plain.person());
        } else if (kind < 12) {
            write();
        } else if (kind < 20) {
            vote();
        } else if (kind < 24) {
            govern();
        } else {
            ask();
        }
    }

    private void write() {
        // with few marks and answers, pools are large enough for many appeals
        if (random.nextInt(3) == 0 || (isQuiet && random.nextInt(5) != 0)) {
            int author = some(6);
            int answers = random.nextInt(8) < (isQuiet ? 6 : 3) ? -1 : somePost();
            due("post(" + author + ", " + answers + ")", real.post(author, answers), plain.post(author, answers));
        } else if (random.nextInt(40) == 0) {
            int person = some(6);
            due("takeBack(" + person + ")", real.takeBack(person), plain.takeBack(person));
        } else {
            int person = some(6);
            int post = somePost();
            int how = random.nextInt(3) == 0 ? some(3) - 1 : 1;
            due("mark(" + person + ", " + post + ", " + how + ")", real.mark(person, post, how),
                    plain.mark(person, post, how));
        }
    }

    private void vote() {
        int person = some(6);
        int kind = random.nextInt(10);
        int post = kind < 3 ? somePost() : kind < 6 ? somePostWith(8, 1) : somePostWith(10, 1);
        if (kind < 3) {
            due("hide(" + person + ", " + post + ")", real.hide(person, post), plain.hide(person, post));
        } else if (kind < 6) {
            int seed = random.nextInt();
            due("appeal(" + post + ", " + seed + ")", real.appeal(post, seed), plain.appeal(post, seed));
        } else {
            int juror = random.nextBoolean() ? person : plain.postOf(post, 20 + random.nextInt(3));
            boolean stays = random.nextBoolean();
            due("say(" + post + ", " + juror + ", " + stays + ")", real.say(post, juror, stays),
                    plain.say(post, juror, stays));
        }
    }

    private void govern() {
        int kind = random.nextInt(3);
        if (kind == 0) {
            int h = plain.about(2) + some(30) - 1;
            due("hour(" + h + ")", real.hour(h), plain.hour(h));
        } else if (kind == 1) {
            int post = somePost();
            boolean it = random.nextInt(3) == 0;
            due("pin(" + post + ", " + it + ")", real.pin(post, it), plain.pin(post, it));
        } else {
            int[] r = {some(51), some(1000), random.nextInt(8) == 0 ? some(41) : likeliestBound,
                random.nextBoolean() ? some(6) : some(21), random.nextBoolean() ? some(3) : some(101)};
            due("rules", real.rules(r[0], r[1], r[2], r[3], r[4]), plain.rules(r));
        }
    }

    private void ask() {
        int post = somePost();
        int i = some(12);
        switch (random.nextInt(8)) {
            case 0:
                due("lower()", real.lower(), plain.lower());
                break;
            case 1:
                due("upper(" + i + ")", real.upper(i), plain.upper(i));
                break;
            case 2:
                due("weight(" + post + ")", real.weight(post), plain.weight(post));
                break;
            case 3:
                int d = some(8);
                due("sure(" + i + ", " + d + ")", real.sure(i, d), plain.sure(i, d));
                break;
            case 4:
                due("listed(" + i + ")", real.listed(i), PlainForum.at(plain.wholeList(), i));
                break;
            case 5:
                due("tree(" + post + ", " + i + ")", real.tree(post, i), PlainForum.at(plain.wholeTree(post), i));
                break;
            case 6:
                due("about(" + i + ")", real.about(i), plain.about(i));
                break;
            default:
                int what = some(24);
                due("postOf(" + post + ", " + what + ")", real.postOf(post, what), plain.postOf(post, what));
                break;
        }
    }

    private void compareAll() {
        List<Integer> list = plain.wholeList();
        due("list()", real.list(), list.size());
        for (int i = -1; i <= list.size(); i++) {
            due("listed(" + i + ")", real.listed(i), PlainForum.at(list, i));
        }
        for (int post = -1; post <= plain.about(1); post++) {
            for (int what = -1; what <= 23; what++) {
                due("postOf(" + post + ", " + what + ")", real.postOf(post, what), plain.postOf(post, what));
            }
            due("weight(" + post + ")", real.weight(post), plain.weight(post));
            List<Integer> tree = plain.wholeTree(post);
            for (int i = -1; i <= tree.size(); i++) {
                due("tree(" + post + ", " + i + ")", real.tree(post, i), PlainForum.at(tree, i));
            }
        }
        long[] uppers = new long[plain.about(0)];
        for (int p = 0; p < uppers.length; p++) {
            uppers[p] = real.upper(p);
            due("upper(" + p + ")", uppers[p], plain.upper(p));
        }
        due("what marks say of worths", plain.worthsHold(real.lower(), uppers), true);
    }
}
