/** The class under test. The document leaves free what call 513 answers, so no test may lean on it. */
final class RealForum implements Forum {
    static final int MOST_CALLS = 512;

    private final ForumWeights it = new ForumWeights();
    private int calls;

    private ForumWeights counted() {
        calls++;
        if (calls > MOST_CALLS) {
            throw new IllegalStateException("a test used one object for more than " + MOST_CALLS + " calls");
        }
        return it;
    }

    @Override
    public int person() {
        return counted().person();
    }

    @Override
    public boolean hour(int h) {
        return counted().hour(h);
    }

    @Override
    public boolean rules(int damp, int risk, int bound, int quota, int ageing) {
        return counted().rules(damp, risk, bound, quota, ageing);
    }

    @Override
    public int post(int author, int answers) {
        return counted().post(author, answers);
    }

    @Override
    public boolean mark(int person, int post, int how) {
        return counted().mark(person, post, how);
    }

    @Override
    public int takeBack(int person) {
        return counted().takeBack(person);
    }

    @Override
    public boolean pin(int post, boolean it) {
        return counted().pin(post, it);
    }

    @Override
    public long lower() {
        return counted().lower();
    }

    @Override
    public long upper(int person) {
        return counted().upper(person);
    }

    @Override
    public long weight(int post) {
        return counted().weight(post);
    }

    @Override
    public int postOf(int post, int what) {
        return counted().postOf(post, what);
    }

    @Override
    public int sure(int u, int d) {
        return counted().sure(u, d);
    }

    @Override
    public boolean hide(int person, int post) {
        return counted().hide(person, post);
    }

    @Override
    public int appeal(int post, int seed) {
        return counted().appeal(post, seed);
    }

    @Override
    public int say(int post, int person, boolean stays) {
        return counted().say(post, person, stays);
    }

    @Override
    public int list() {
        return counted().list();
    }

    @Override
    public int listed(int i) {
        return counted().listed(i);
    }

    @Override
    public int tree(int root, int i) {
        return counted().tree(root, i);
    }

    @Override
    public int about(int what) {
        return counted().about(what);
    }
}
