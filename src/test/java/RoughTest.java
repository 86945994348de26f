import java.util.Random;

/**
 * Rule 7 of LANGUAGE.md: whatever the arguments and the state, also behind the 512th call, no call throws by itself,
 * and none throws anything but what the document names for it. What the calls answer is not looked at here.
 */
final class RoughTest {
    private static final int RUNS = 300;
    private static final int CALLS = 3000;
    private static final int[] NUMBERS = {0, 1, 2, 3, 4, 5, 11, 12, 13, 15, 16, 39, 40, 99, 100, 199, 200, -1, -2, 255,
        256, Integer.MIN_VALUE, Integer.MAX_VALUE};
    private static final String CHARACTERS = "aaabbbcccABCxyz////.*>>-_ ~\n\u00e9\uffff";

    private final Random random;
    private final SourceTree x = new SourceTree();

    private RoughTest(int seed) {
        random = new Random(seed);
    }

    public static void main(String[] args) {
        for (int seed = 0; seed < RUNS; seed++) {
            RoughTest run = new RoughTest(seed);
            for (int i = 0; i < CALLS; i++) {
                int call = run.random.nextInt(40);
                Check.same("seed " + seed + ", call " + call + " throws", run.thrown(call), "");
            }
        }
        Check.finish("RoughTest");
    }

    private int number() {
        return random.nextInt(3) > 0 ? random.nextInt(4) : NUMBERS[random.nextInt(NUMBERS.length)];
    }

    /** The name of an exception that the call must not throw; empty if there is none. */
    private String thrown(int call) {
        try {
            make(call);
            return "";
        } catch (RuntimeException e) {
            boolean argument = e.getClass() == IllegalArgumentException.class && call <= 6;
            boolean state = e.getClass() == IllegalStateException.class && call <= 5;
            return argument || state ? "" : e.toString();
        }
    }

    private void make(int call) {
        switch (call) {
            case 0 -> x.put(number(), random.nextBoolean());
            case 1 -> x.link(number());
            case 2 -> x.folder(number());
            case 3 -> x.remove(number());
            case 4 -> x.edition(number());
            case 5 -> x.ignore();
            case 6 -> x.look(number());
            case 7 -> x.size();
            case 8 -> x.byteAt(number());
            case 9 -> x.back(number(), number());
            case 10 -> x.digest(number());
            case 11 -> x.nodes(number());
            case 12 -> x.differ(number(), number());
            case 13 -> x.clashes(number());
            case 14 -> x.row(number());
            case 15 -> x.path(number(), random.nextBoolean(), number());
            case 16 -> x.changes(number());
            case 17 -> x.change(number(), number(), number());
            case 18 -> x.seen(number());
            case 19 -> x.octet(number());
            default -> x.type(CHARACTERS.charAt(random.nextInt(CHARACTERS.length())));
        }
    }
}
