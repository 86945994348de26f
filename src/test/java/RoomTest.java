import com.sun.management.ThreadMXBean;
import java.lang.management.ManagementFactory;

/** What the dearest runs of 512 calls allocate, far below the room of 7.3 million fields and elements. */
final class RoomTest {
    private static final long MOST_BYTES = 4_000_000;
    private static final String SINGLE = "abcdefghijklmnopqrstuvwxyzABCDEFGHIJKLMNOPQRSTUVWXYZ0123456789_-";

    private RoomTest() {
    }

    public static void main(String[] args) {
        // The first time round, the classes are loaded, which counts too.
        for (int round = 0; round < 2; round++) {
            measure("new objects", 0, round);
            measure("a wide folder", 1, round);
            measure("deep folders", 2, round);
            measure("links that go round", 3, round);
            measure("comparisons", 4, round);
        }
        Check.finish("RoomTest");
    }

    private static void measure(String what, int run, int round) {
        ThreadMXBean threads = (ThreadMXBean) ManagementFactory.getThreadMXBean();
        long before = threads.getCurrentThreadAllocatedBytes();
        switch (run) {
            case 0 -> newObjects();
            case 1 -> wideFolder();
            case 2 -> deepFolders();
            case 3 -> linksRound();
            default -> comparisons();
        }
        long bytes = threads.getCurrentThreadAllocatedBytes() - before;
        if (round > 0) {
            System.out.println("RoomTest: " + what + ": " + bytes + " bytes");
            Check.same(what + " allocates at most " + MOST_BYTES + " bytes", bytes <= MOST_BYTES, true);
        }
    }

    private static void type(SourceTree x, String text) {
        for (int i = 0; i < text.length(); i++) {
            x.type(text.charAt(i));
        }
    }

    private static void newObjects() {
        for (int i = 0; i < 512; i++) {
            new SourceTree();
        }
    }

    private static void wideFolder() {
        SourceTree x = new SourceTree();
        for (int i = 0; i < 256; i++) {
            x.type(SINGLE.charAt(i % SINGLE.length()));
            x.put(0, i % 128 < 64);
        }
    }

    private static void deepFolders() {
        SourceTree x = new SourceTree();
        for (int i = 0; i < 32; i++) {
            type(x, "a/b/c/d/e/f/g/" + SINGLE.charAt(i));
            x.folder(0);
        }
    }

    private static void linksRound() {
        SourceTree x = new SourceTree();
        type(x, "a>a/b/b/b/b/b/b/b");
        x.link(0);
        for (int i = 0; i < 246; i++) {
            x.type('a');
            Check.same("round", x.look(0), 4);
        }
    }

    private static void comparisons() {
        SourceTree x = new SourceTree();
        for (int i = 0; i < 128; i++) {
            x.type(SINGLE.charAt(i % SINGLE.length()));
            x.put(i / 64, false);
        }
        x.edition(0);
        x.edition(1);
        x.edition(2);
        for (int i = 0; i < 126; i++) {
            x.differ(i % 3, 2 - i % 2);
            x.clashes(i % 3);
        }
    }
}
