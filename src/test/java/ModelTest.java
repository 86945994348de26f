import java.util.Random;

/** Long mixed runs of calls, the same ones each time, whose answers must be those of the Model. */
final class ModelTest {
    private static final String[] NAMES = {"a", "A", "b", "B", "ab", "aB", "Ab", "a.c", "A.C", "-", "_x", "z9"};
    private static final String[] WRONG = {"", ".", "..", "a//b", "/a", "a/", "a b", "abcdefghijklm", "a/./b",
        "a/b/a/b/a/b/a/b/a", "a>", ">a", "a>b>c", "a*", "a/b*"};
    private static final String[] PATTERNS = {"a*", "*", "*b", "A*", "a*c", "*.*", "**b**", "b", "z*9", ".", "..",
        "", "a/b", "abcdefghijklm", ".*", "a*b*", "***********b", "*-"};

    private static final String SINGLE = "abcdefghijklmnopqrstuvwxyzABCDEFGHIJKLMNOPQRSTUVWXYZ0123456789_-";
    private static final int[] ODD = {-1, 4, 5, 15, 16, 17, Integer.MIN_VALUE, Integer.MAX_VALUE};
    private static final int STEPS = 12;
    private static final int RUNS = 6000;

    private final Random random;
    private final Counted x = new Counted();
    private final Model model = new Model();
    private final int seed;
    private final int depth;
    private final int oddity;
    private final boolean wide;
    private final int[] weights = new int[STEPS];
    private int editions;

    private ModelTest(int seed) {
        this.seed = seed;
        random = new Random(seed);
        depth = 1 + random.nextInt(8);
        oddity = 5 + random.nextInt(60);
        wide = random.nextInt(4) == 0;
        for (int i = 0; i < STEPS; i++) {
            weights[i] = 1 + random.nextInt(10);
        }
        weights[0] += random.nextInt(30);
    }

    public static void main(String[] args) {
        for (int seed = 0; seed < RUNS && Check.failures() == 0; seed++) {
            new ModelTest(seed).run();
        }
        Check.finish("ModelTest");
    }

    /** Each run goes on up to its 512th call. */
    private void run() {
        try {
            while (Check.failures() == 0) {
                step();
            }
        } catch (Counted.UsedUp end) {
            Check.same("calls", x.calls(), Counted.MOST_CALLS);
        }
    }

    private void same(String what, long got, long due) {
        Check.same("seed " + seed + ": " + what, got, due);
    }

    private void same(String what, boolean got, boolean due) {
        Check.same("seed " + seed + ": " + what, got, due);
    }

    private boolean isOdd() {
        return random.nextInt(oddity) == 0;
    }

    private int tree() {
        if (isOdd()) {
            return ODD[random.nextInt(ODD.length)];
        }
        return random.nextInt(3) > 0 ? 0 : random.nextInt(4);
    }

    private int edition() {
        if (isOdd() || editions == 0) {
            return random.nextBoolean() ? editions : ODD[random.nextInt(ODD.length)];
        }
        return random.nextInt(editions);
    }

    private String name() {
        int letter = random.nextInt(SINGLE.length());
        return wide ? SINGLE.substring(letter, letter + 1) : NAMES[random.nextInt(NAMES.length)];
    }

    private String path() {
        if (isOdd()) {
            return WRONG[random.nextInt(WRONG.length)];
        }
        StringBuilder path = new StringBuilder(name());
        for (int more = random.nextInt(depth); more > 0; more--) {
            path.append('/').append(name());
        }
        return path.toString();
    }

    private void type(String text) {
        for (char c : text.toCharArray()) {
            same("type", x.type(c), model.type(c));
        }
        for (int more = random.nextInt(3); more > 0; more--) {
            int b = isOdd() ? random.nextInt(600) - 200 : random.nextInt(2);
            same("octet", x.octet(b), model.octet(b));
        }
    }

    /** One of the steps, each as often as its weight says. */
    private int chosen() {
        int sum = 0;
        for (int weight : weights) {
            sum += weight;
        }
        int left = random.nextInt(sum);
        int step = 0;
        while (left >= weights[step]) {
            left -= weights[step];
            step++;
        }
        return step;
    }

    private void step() {
        switch (chosen()) {
            case 0 -> put(tree());
            case 1 -> link(tree());
            case 2 -> folder(tree());
            case 3 -> remove(tree());
            case 4 -> look(tree());
            case 5 -> keep(tree());
            case 6 -> back(tree(), edition());
            case 7 -> ignore();
            case 8 -> measure(edition());
            case 9 -> compare(edition(), edition());
            case 10 -> clash(edition());
            default -> watch(tree());
        }
    }

    private void put(int tree) {
        type(path());
        boolean executable = random.nextInt(4) == 0;
        same("put", Check.put(x, tree, "", executable), model.put(tree, executable));
    }

    private void link(int tree) {
        type(path() + ">" + path());
        same("link", Check.link(x, tree, ""), model.link(tree));
    }

    private void folder(int tree) {
        type(path());
        same("folder", Check.folder(x, tree, ""), model.folder(tree));
    }

    private void remove(int tree) {
        type(random.nextBoolean() ? path() : name());
        same("remove", Check.remove(x, tree, ""), model.remove(tree));
    }

    private void look(int tree) {
        type(path());
        same("look", Check.look(x, tree, ""), model.look(tree));
        same("size", x.size(), model.size());
        for (int k = -1; k <= model.size(); k++) {
            same("byteAt", x.byteAt(k), model.byteAt(k));
        }
    }

    private void keep(int tree) {
        int due = model.edition(tree);
        same("edition", Check.edition(x, tree), due);
        editions = due < 0 ? editions : due + 1;
    }

    private void back(int tree, int edition) {
        same("back", x.back(tree, edition), model.back(tree, edition));
    }

    private void ignore() {
        if (random.nextInt(5) == 0) {
            type(PATTERNS[random.nextInt(PATTERNS.length)]);
            same("ignore", Check.ignore(x, ""), model.ignore());
        }
    }

    private void measure(int edition) {
        same("digest", x.digest(edition), model.digest(edition));
        same("nodes", x.nodes(edition), model.nodes(edition));
    }

    private void compare(int first, int second) {
        same("differ", x.differ(first, second), model.differ(first, second));
        compareRows();
    }

    private void clash(int edition) {
        same("clashes", x.clashes(edition), model.clashes(edition));
        compareRows();
    }

    /** Most rows by their kinds alone, because paths take many of the 512 calls. */
    private void compareRows() {
        int read = random.nextInt(4);
        for (int i = -1; i == -1 || model.row(i - 1) != -1; i++) {
            same("row", x.row(i), model.row(i));
            if (random.nextInt(4) < read) {
                comparePaths(i, false);
                comparePaths(i, true);
            }
        }
    }

    private void comparePaths(int i, boolean second) {
        for (int k = -1; k <= 0 || model.path(i, second, k - 1) != 0; k++) {
            same("path", x.path(i, second, k), model.path(i, second, k));
        }
    }

    private void watch(int tree) {
        same("changes", x.changes(tree), model.changes(tree));
        int i = random.nextInt(15) - 1;
        for (int k = -1; k <= 0 || model.change(tree, i, k - 1) != 0; k++) {
            same("change", x.change(tree, i, k), model.change(tree, i, k));
        }
        if (random.nextInt(12) == 0) {
            same("seen", x.seen(tree), model.seen(tree));
        }
    }
}
