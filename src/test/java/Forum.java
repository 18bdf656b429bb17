/** The document's face, so that a test can put the same calls to the class and to another telling of it. */
interface Forum {
    int person();

    boolean hour(int h);

    boolean rules(int damp, int risk, int bound, int quota, int ageing);

    int post(int author, int answers);

    boolean mark(int person, int post, int how);

    int takeBack(int person);

    boolean pin(int post, boolean it);

    long lower();

    long upper(int person);

    long weight(int post);

    int postOf(int post, int what);

    int sure(int u, int d);

    boolean hide(int person, int post);

    int appeal(int post, int seed);

    int say(int post, int person, boolean stays);

    int list();

    int listed(int i);

    int tree(int root, int i);

    int about(int what);
}
