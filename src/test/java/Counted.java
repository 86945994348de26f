/** A SourceTree whose calls are counted: the document leaves free what follows the 512th, so no test goes there. */
final class Counted {
    static final int MOST_CALLS = 512;

    /** Thrown instead of a call that would be the 513th. */
    static final class UsedUp extends RuntimeException {
        private static final long serialVersionUID = 1L;
    }

    private final SourceTree x = new SourceTree();
    private int calls;

    int calls() {
        return calls;
    }

    private SourceTree next() {
        if (calls == MOST_CALLS) {
            throw new UsedUp();
        }
        calls++;
        return x;
    }

    boolean type(char c) {
        return next().type(c);
    }

    boolean octet(int b) {
        return next().octet(b);
    }

    int put(int tree, boolean executable) {
        return next().put(tree, executable);
    }

    int link(int tree) {
        return next().link(tree);
    }

    int folder(int tree) {
        return next().folder(tree);
    }

    int remove(int tree) {
        return next().remove(tree);
    }

    int look(int tree) {
        return next().look(tree);
    }

    int size() {
        return next().size();
    }

    int byteAt(int k) {
        return next().byteAt(k);
    }

    int edition(int tree) {
        return next().edition(tree);
    }

    boolean back(int tree, int edition) {
        return next().back(tree, edition);
    }

    long digest(int edition) {
        return next().digest(edition);
    }

    int nodes(int edition) {
        return next().nodes(edition);
    }

    void ignore() {
        next().ignore();
    }

    int differ(int first, int second) {
        return next().differ(first, second);
    }

    int clashes(int edition) {
        return next().clashes(edition);
    }

    int row(int i) {
        return next().row(i);
    }

    int path(int i, boolean second, int k) {
        return next().path(i, second, k);
    }

    int changes(int tree) {
        return next().changes(tree);
    }

    int change(int tree, int i, int k) {
        return next().change(tree, i, k);
    }

    boolean seen(int tree) {
        return next().seen(tree);
    }
}
