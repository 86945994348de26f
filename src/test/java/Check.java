import java.util.function.IntUnaryOperator;

/** Counts the answers that are as due, prints the others, and drives a SourceTree by whole texts. */
final class Check {
    static final int REFUSED_ARGUMENT = -1001;
    static final int REFUSED_STATE = -1002;

    private static int passed;
    private static int failed;

    private Check() {
    }

    static void same(String what, long got, long due) {
        if (got == due) {
            passed++;
        } else {
            failed++;
            System.out.println(what + " answered " + got + ", due is " + due);
        }
    }

    static void same(String what, boolean got, boolean due) {
        same(what, got ? 1 : 0, due ? 1 : 0);
    }

    static void same(String what, String got, String due) {
        if (got.equals(due)) {
            passed++;
        } else {
            failed++;
            System.out.println(what + " answered \"" + got + "\", due is \"" + due + "\"");
        }
    }

    static int failures() {
        return failed;
    }

    static void finish(String test) {
        System.out.println(test + ": " + passed + " passed, " + failed + " failed");
        if (failed != 0) {
            System.exit(1);
        }
    }

    static void type(Counted x, String text) {
        for (int i = 0; i < text.length(); i++) {
            x.type(text.charAt(i));
        }
    }

    static void octets(Counted x, int... bytes) {
        for (int b : bytes) {
            x.octet(b);
        }
    }

    static int put(Counted x, int tree, String path, boolean executable, int... bytes) {
        type(x, path);
        octets(x, bytes);
        try {
            return x.put(tree, executable);
        } catch (IllegalArgumentException e) {
            return REFUSED_ARGUMENT;
        } catch (IllegalStateException e) {
            return REFUSED_STATE;
        }
    }

    static int link(Counted x, int tree, String text) {
        type(x, text);
        try {
            return x.link(tree);
        } catch (IllegalArgumentException e) {
            return REFUSED_ARGUMENT;
        } catch (IllegalStateException e) {
            return REFUSED_STATE;
        }
    }

    static int folder(Counted x, int tree, String path) {
        type(x, path);
        try {
            return x.folder(tree);
        } catch (IllegalArgumentException e) {
            return REFUSED_ARGUMENT;
        } catch (IllegalStateException e) {
            return REFUSED_STATE;
        }
    }

    static int remove(Counted x, int tree, String path) {
        type(x, path);
        try {
            return x.remove(tree);
        } catch (IllegalArgumentException e) {
            return REFUSED_ARGUMENT;
        } catch (IllegalStateException e) {
            return REFUSED_STATE;
        }
    }

    static int look(Counted x, int tree, String path) {
        type(x, path);
        try {
            return x.look(tree);
        } catch (IllegalArgumentException e) {
            return REFUSED_ARGUMENT;
        }
    }

    static int edition(Counted x, int tree) {
        try {
            return x.edition(tree);
        } catch (IllegalArgumentException e) {
            return REFUSED_ARGUMENT;
        } catch (IllegalStateException e) {
            return REFUSED_STATE;
        }
    }

    static int ignore(Counted x, String pattern) {
        type(x, pattern);
        try {
            x.ignore();
            return 0;
        } catch (IllegalArgumentException e) {
            return REFUSED_ARGUMENT;
        } catch (IllegalStateException e) {
            return REFUSED_STATE;
        }
    }

    /** A tree with a given number of NODES, in chains of eight: A/b/c/d/e/f/g/h, B/b/.. */
    static void fill(Counted x, int tree, int count) {
        for (int made = 0, i = 0; made < count; i++) {
            String names = "/b/c/d/e/f/g/h".substring(0, 2 * Math.min(7, count - made - 1));
            made += put(x, tree, (char) ('A' + i) + names, false);
        }
    }

    /** All rows, each its kind, its path, and behind > the other one; a blank between two rows. */
    static String rows(Counted x) {
        StringBuilder all = new StringBuilder();
        int kind = x.row(0);
        for (int i = 0; kind != SourceTree.NONE; i++) {
            String other = path(x, i, true);
            all.append(i == 0 ? "" : " ").append(kind).append(path(x, i, false));
            all.append(other.isEmpty() ? "" : ">" + other);
            kind = x.row(i + 1);
        }
        return all.toString();
    }

    static String path(Counted x, int i, boolean second) {
        return letters(k -> x.path(i, second, k));
    }

    /** The PATHS of all changes that are watched, a blank between two. */
    static String changes(Counted x, int tree) {
        StringBuilder all = new StringBuilder();
        String path = letters(k -> x.change(tree, 0, k));
        for (int i = 1; !path.isEmpty(); i++) {
            int next = i;
            all.append(i == 1 ? "" : " ").append(path);
            path = letters(k -> x.change(tree, next, k));
        }
        return all.toString();
    }

    /** The characters from place 0 on, up to the first 0. */
    private static String letters(IntUnaryOperator letter) {
        StringBuilder all = new StringBuilder();
        int c = letter.applyAsInt(0);
        for (int k = 1; c != 0; k++) {
            all.append((char) c);
            c = letter.applyAsInt(k);
        }
        return all.toString();
    }

    /** The BYTES of the file that was looked at last, each with a blank behind it. */
    static String bytes(Counted x) {
        StringBuilder all = new StringBuilder();
        int b = x.byteAt(0);
        for (int k = 1; b != SourceTree.NONE; k++) {
            all.append(b).append(' ');
            b = x.byteAt(k);
        }
        return all.toString();
    }
}
