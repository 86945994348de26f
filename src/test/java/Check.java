/** Counts the answers that are as due, prints the others, and drives a SourceTree by whole texts. */
final class Check {
    static final int REFUSED_ARGUMENT = -1001;
    static final int REFUSED_STATE = -1002;

    private static int passed;
    private static int failed;

    private Check() {
    }

    static void same(String what, long got, long due) {
        if (got == due) {
            passed++;
        } else {
            failed++;
            System.out.println(what + " answered " + got + ", due is " + due);
        }
    }

    static void same(String what, boolean got, boolean due) {
        same(what, got ? 1 : 0, due ? 1 : 0);
    }

    static void same(String what, String got, String due) {
        if (got.equals(due)) {
            passed++;
        } else {
            failed++;
            System.out.println(what + " answered \"" + got + "\", due is \"" + due + "\"");
        }
    }

    static int failures() {
        return failed;
    }

    static void finish(String test) {
        System.out.println(test + ": " + passed + " passed, " + failed + " failed");
        if (failed != 0) {
            System.exit(1);
        }
    }

    static void type(SourceTree x, String text) {
        for (int i = 0; i < text.length(); i++) {
            x.type(text.charAt(i));
        }
    }

    static void octets(SourceTree x, int... bytes) {
        for (int b : bytes) {
            x.octet(b);
        }
    }

    static int put(SourceTree x, int tree, String path, boolean executable, int... bytes) {
        type(x, path);
        octets(x, bytes);
        try {
            return x.put(tree, executable);
        } catch (IllegalArgumentException e) {
            return REFUSED_ARGUMENT;
        } catch (IllegalStateException e) {
            return REFUSED_STATE;
        }
    }

    static int link(SourceTree x, int tree, String text) {
        type(x, text);
        try {
            return x.link(tree);
        } catch (IllegalArgumentException e) {
            return REFUSED_ARGUMENT;
        } catch (IllegalStateException e) {
            return REFUSED_STATE;
        }
    }

    static int folder(SourceTree x, int tree, String path) {
        type(x, path);
        try {
            return x.folder(tree);
        } catch (IllegalArgumentException e) {
            return REFUSED_ARGUMENT;
        } catch (IllegalStateException e) {
            return REFUSED_STATE;
        }
    }

    static int remove(SourceTree x, int tree, String path) {
        type(x, path);
        try {
            return x.remove(tree);
        } catch (IllegalArgumentException e) {
            return REFUSED_ARGUMENT;
        } catch (IllegalStateException e) {
            return REFUSED_STATE;
        }
    }

    static int look(SourceTree x, int tree, String path) {
        type(x, path);
        try {
            return x.look(tree);
        } catch (IllegalArgumentException e) {
            return REFUSED_ARGUMENT;
        }
    }

    static int edition(SourceTree x, int tree) {
        try {
            return x.edition(tree);
        } catch (IllegalArgumentException e) {
            return REFUSED_ARGUMENT;
        } catch (IllegalStateException e) {
            return REFUSED_STATE;
        }
    }

    static int ignore(SourceTree x, String pattern) {
        type(x, pattern);
        try {
            x.ignore();
            return 0;
        } catch (IllegalArgumentException e) {
            return REFUSED_ARGUMENT;
        } catch (IllegalStateException e) {
            return REFUSED_STATE;
        }
    }

    /** All rows, each its kind, its path, and behind > the other one; a blank between two rows. */
    static String rows(SourceTree x) {
        StringBuilder all = new StringBuilder();
        for (int i = 0; x.row(i) != SourceTree.NONE; i++) {
            all.append(i == 0 ? "" : " ").append(x.row(i)).append(path(x, i, false));
            all.append(x.path(i, true, 0) == 0 ? "" : ">" + path(x, i, true));
        }
        return all.toString();
    }

    private static String path(SourceTree x, int i, boolean second) {
        StringBuilder path = new StringBuilder();
        for (int k = 0; x.path(i, second, k) != 0; k++) {
            path.append((char) x.path(i, second, k));
        }
        return path.toString();
    }

    /** The PATHS of all changes that are watched, a blank between two. */
    static String changes(SourceTree x, int tree) {
        StringBuilder all = new StringBuilder();
        for (int i = 0; x.change(tree, i, 0) != 0; i++) {
            all.append(i == 0 ? "" : " ");
            for (int k = 0; x.change(tree, i, k) != 0; k++) {
                all.append((char) x.change(tree, i, k));
            }
        }
        return all.toString();
    }

    /** The BYTES of the file that was looked at last, each with a blank behind it. */
    static String bytes(SourceTree x) {
        StringBuilder all = new StringBuilder();
        for (int k = 0; x.byteAt(k) != SourceTree.NONE; k++) {
            all.append(x.byteAt(k)).append(' ');
        }
        return all.toString();
    }
}
