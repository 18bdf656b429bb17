import java.util.ArrayList;
import java.util.List;
import java.util.Random;
import java.util.function.Supplier;
import java.util.function.ToLongFunction;

/** Long runs of calls, the same ones every time: each answer is held against that of PlainForum. */
public final class ModelTest {
    private static final int RUNS = 400;
    private static final int RUNS_LOOKED_AT_WHOLE = 80;
    private static final int[] WILD = {Integer.MIN_VALUE, -33, -32, -2, -1, 6, 7, 23, 31, 32, 33, 40, 64,
        Integer.MAX_VALUE};

    private static final Checks CHECKS = new Checks("ModelTest");

    private final Forum real = new RealForum();
    private final PlainForum plain = new PlainForum();
    private final List<ToLongFunction<Forum>> changes = new ArrayList<>();
    private final Random random;
    private final int run;
    private final int likeliestBound;
    private final boolean isQuiet;

    private ModelTest(int run) {
        this.run = run;
        this.random = new Random(run);
        this.likeliestBound = 1 + run % 4;
        this.isQuiet = run % 3 == 0;
    }

    public static void main(String[] args) {
        for (int run = 0; run < RUNS; run++) {
            ModelTest test = new ModelTest(run);
            test.callTillTheLast();
            test.compareWorths();
            if (run < RUNS_LOOKED_AT_WHOLE) {
                test.compareWhole();
            }
        }
        CHECKS.end();
    }

    private void due(String call, ToLongFunction<Forum> it) {
        CHECKS.due("run " + run + ": " + call, it.applyAsLong(real), it.applyAsLong(plain));
    }

    /** A call that may change the forum: it is kept, so that it can be made again on a new one. */
    private void change(String call, ToLongFunction<Forum> it) {
        due(call, it);
        changes.add(it);
    }

    private static long bit(boolean answer) {
        return answer ? 1 : 0;
    }

    /** Mostly a number below a bound, now and then one from far outside. */
    private int some(int bound) {
        return random.nextInt(25) == 0 ? WILD[random.nextInt(WILD.length)] : random.nextInt(bound);
    }

    private int somePost() {
        return some(Math.max(1, plain.about(1)));
    }

    /** A post whose postOf is as told, if a few tries find one: what is rare would hardly be met by chance. */
    private int somePostWith(int what, int value) {
        int post = somePost();
        for (int tries = 0; tries < 60 && plain.postOf(post, what) != value; tries++) {
            post = somePost();
        }
        return post;
    }

    /** The 512th call is promised still; the last ones are left for the worths. */
    private void callTillTheLast() {
        for (int call = 0; call < RealForum.MOST_CALLS - 7; call++) {
            int kind = call < 6 ? random.nextInt(4) : random.nextInt(40);
            if (kind < 2) {
                change("person()", x -> x.person());
            } else if (kind < 12) {
                write();
            } else if (kind < 20) {
                vote();
            } else if (kind < 24) {
                govern();
            } else {
                ask();
            }
        }
    }

    private void write() {
        int person = some(6);
        // with few marks and answers, pools are large enough for many appeals
        if (random.nextInt(3) == 0 || (isQuiet && random.nextInt(5) != 0)) {
            int answers = random.nextInt(8) < (isQuiet ? 6 : 3) ? -1 : somePost();
            change("post(" + person + ", " + answers + ")", x -> x.post(person, answers));
        } else if (random.nextInt(40) == 0) {
            change("takeBack(" + person + ")", x -> x.takeBack(person));
        } else {
            int post = somePost();
            int how = random.nextInt(3) == 0 ? some(3) - 1 : 1;
            change("mark(" + person + ", " + post + ", " + how + ")", x -> bit(x.mark(person, post, how)));
        }
    }

    private void vote() {
        int person = some(6);
        int kind = random.nextInt(10);
        int post = kind < 3 ? somePost() : kind < 6 ? somePostWith(8, 1) : somePostWith(10, 1);
        if (kind < 3) {
            change("hide(" + person + ", " + post + ")", x -> bit(x.hide(person, post)));
        } else if (kind < 6) {
            int seed = random.nextInt();
            change("appeal(" + post + ", " + seed + ")", x -> x.appeal(post, seed));
        } else {
            int juror = random.nextBoolean() ? person : plain.postOf(post, 20 + random.nextInt(3));
            boolean stays = random.nextBoolean();
            change("say(" + post + ", " + juror + ", " + stays + ")", x -> x.say(post, juror, stays));
        }
    }

    private void govern() {
        int kind = random.nextInt(3);
        if (kind == 0) {
            int h = plain.about(2) + some(30) - 1;
            change("hour(" + h + ")", x -> bit(x.hour(h)));
        } else if (kind == 1) {
            int post = somePost();
            boolean it = random.nextInt(3) == 0;
            change("pin(" + post + ", " + it + ")", x -> bit(x.pin(post, it)));
        } else {
            int[] r = {some(51), some(1000), random.nextInt(8) == 0 ? some(41) : likeliestBound,
                random.nextBoolean() ? some(6) : some(21), random.nextBoolean() ? some(3) : some(101)};
            change("rules", x -> bit(x.rules(r[0], r[1], r[2], r[3], r[4])));
        }
    }

    private void ask() {
        int post = somePost();
        int i = some(12);
        int other = some(24);
        switch (random.nextInt(9)) {
            case 0 -> due("lower()", x -> x.lower());
            case 1 -> due("upper(" + i + ")", x -> x.upper(i));
            case 2 -> due("weight(" + post + ")", x -> x.weight(post));
            case 3 -> due("sure(" + i + ", " + other % 8 + ")", x -> x.sure(i, other % 8));
            case 4 -> due("list()", x -> x.list());
            case 5 -> due("listed(" + other + ")", x -> x.listed(other));
            case 6 -> due("tree(" + post + ", " + i + ")", x -> x.tree(post, i));
            case 7 -> due("about(" + i + ")", x -> x.about(i));
            default -> due("postOf(" + post + ", " + other + ")", x -> x.postOf(post, other));
        }
    }

    private void compareWorths() {
        long[] uppers = new long[plain.about(0)];
        for (int p = 0; p < uppers.length; p++) {
            uppers[p] = real.upper(p);
            CHECKS.due("run " + run + ": upper(" + p + ")", uppers[p], plain.upper(p));
        }
        boolean holds = plain.worthsHold(real.lower(), uppers);
        CHECKS.due("run " + run + ": what marks say of worths", holds, true);
    }

    private void compareWhole() {
        CHECKS.same("run " + run, Whole.of(made(RealForum::new)), Whole.of(made(PlainForum::new)));
    }

    /** A new forum with as many of the run's changes as leave room for the questions. */
    private Supplier<Forum> made(Supplier<Forum> maker) {
        return () -> {
            Forum x = maker.get();
            for (int k = 0; k < changes.size() && k < Whole.MOST_CALLS_BEFORE; k++) {
                changes.get(k).applyAsLong(x);
            }
            return x;
        };
    }
}
