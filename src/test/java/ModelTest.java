import java.util.Random;

/** Long mixed runs of calls, the same ones each time, whose answers must be those of the Model. */
final class ModelTest {
    private static final String[] NAMES = {"a", "A", "b", "B", "ab", "aB", "Ab", "a.c", "A.C", "-", "_x", "z9"};
    private static final String[] WRONG = {"", ".", "..", "a//b", "/a", "a/", "a b", "abcdefghijklm", "a/./b",
        "a/b/a/b/a/b/a/b/a", "a>", ">a", "a>b>c", "a*", "a/b*"};
    private static final String[] PATTERNS = {"a*", "*", "*b", "A*", "a*c", "*.*", "**b**", "b", "z*9", ".", "..",
        "", "a/b", "abcdefghijklm", ".*", "a*b*", "***********b", "*-"};

    private final Random random;
    private final SourceTree x = new SourceTree();
    private final Model model = new Model();
    private final int seed;
    private final int depth;
    private final int oddity;

    private ModelTest(int seed) {
        this.seed = seed;
        random = new Random(seed);
        depth = 1 + random.nextInt(8);
        oddity = 5 + random.nextInt(60);
    }

    public static void main(String[] args) {
        for (int seed = 0; seed < 1500 && Check.failures() == 0; seed++) {
            new ModelTest(seed).run(seed % 10 == 0 ? 600 : 120);
        }
        Check.finish("ModelTest");
    }

    private void run(int calls) {
        for (int i = 0; i < calls && Check.failures() == 0; i++) {
            step();
        }
    }

    private void same(String what, long got, long due) {
        Check.same("seed " + seed + ": " + what, got, due);
    }

    private void same(String what, boolean got, boolean due) {
        Check.same("seed " + seed + ": " + what, got, due);
    }

    private int some(int below) {
        return random.nextInt(oddity) == 0 ? random.nextInt(5) * 5 - 5 : random.nextInt(below);
    }

    private String name() {
        return NAMES[random.nextInt(NAMES.length)];
    }

    private String path() {
        if (random.nextInt(oddity) == 0) {
            return WRONG[random.nextInt(WRONG.length)];
        }
        StringBuilder path = new StringBuilder(name());
        for (int more = random.nextInt(depth); more > 0; more--) {
            path.append('/').append(name());
        }
        return path.toString();
    }

    private void type(String text) {
        for (char c : text.toCharArray()) {
            same("type", x.type(c), model.type(c));
        }
        for (int more = random.nextInt(3); more > 0; more--) {
            int b = random.nextInt(oddity) == 0 ? random.nextInt(600) - 200 : random.nextInt(2);
            same("octet", x.octet(b), model.octet(b));
        }
    }

    private void step() {
        int tree = random.nextInt(3) > 0 ? 0 : some(4);
        int edition = some(6);
        switch (random.nextInt(16)) {
            case 0, 1, 2, 3 -> put(tree);
            case 4 -> link(tree);
            case 5 -> folder(tree);
            case 6, 7 -> remove(tree);
            case 8, 9 -> look(tree);
            case 10 -> same("edition", Check.edition(x, tree), model.edition(tree));
            case 11 -> back(tree, edition);
            case 12 -> ignore();
            case 13 -> measure(edition);
            case 14 -> compare(edition);
            default -> watch(tree);
        }
    }

    private void put(int tree) {
        type(path());
        boolean executable = random.nextInt(4) == 0;
        same("put", Check.put(x, tree, "", executable), model.put(tree, executable));
    }

    private void link(int tree) {
        type(path() + ">" + path());
        same("link", Check.link(x, tree, ""), model.link(tree));
    }

    private void folder(int tree) {
        type(path());
        same("folder", Check.folder(x, tree, ""), model.folder(tree));
    }

    private void remove(int tree) {
        type(random.nextBoolean() ? path() : name());
        same("remove", Check.remove(x, tree, ""), model.remove(tree));
    }

    private void look(int tree) {
        type(path());
        same("look", Check.look(x, tree, ""), model.look(tree));
        same("size", x.size(), model.size());
        for (int k = -1; k <= model.size(); k++) {
            same("byteAt", x.byteAt(k), model.byteAt(k));
        }
    }

    private void back(int tree, int edition) {
        if (random.nextInt(3) == 0) {
            same("back", x.back(tree, edition), model.back(tree, edition));
        }
    }

    private void ignore() {
        if (random.nextInt(12) == 0) {
            type(PATTERNS[random.nextInt(PATTERNS.length)]);
            same("ignore", Check.ignore(x, ""), model.ignore());
        }
    }

    private void measure(int edition) {
        same("digest", x.digest(edition), model.digest(edition));
        same("nodes", x.nodes(edition), model.nodes(edition));
    }

    private void compare(int edition) {
        int second = some(6);
        if (random.nextInt(4) == 0) {
            same("clashes", x.clashes(edition), model.clashes(edition));
        } else {
            same("differ", x.differ(edition, second), model.differ(edition, second));
        }
        for (int i = -1; i == -1 || model.row(i - 1) != -1; i++) {
            same("row", x.row(i), model.row(i));
            comparePaths(i, false);
            comparePaths(i, true);
        }
    }

    private void comparePaths(int i, boolean second) {
        for (int k = -1; k <= 0 || model.path(i, second, k - 1) != 0; k++) {
            same("path", x.path(i, second, k), model.path(i, second, k));
        }
    }

    private void watch(int tree) {
        same("changes", x.changes(tree), model.changes(tree));
        for (int i = -1; i <= 13; i++) {
            for (int k = -1; k <= 0 || model.change(tree, i, k - 1) != 0; k++) {
                same("change", x.change(tree, i, k), model.change(tree, i, k));
            }
        }
        if (random.nextInt(3) == 0) {
            same("seen", x.seen(tree), model.seen(tree));
        }
    }
}
