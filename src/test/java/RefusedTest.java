import java.util.ArrayList;
import java.util.List;
import java.util.function.Consumer;
import java.util.function.ToLongFunction;

/**
 * "A call that takes them empties both, in any case": each refusal of each call answers as due, leaves all else as it
 * was, and TEXT and BYTES empty if the call takes them, as they were if it does not.
 */
final class RefusedTest {
    private static final int ARGUMENT = Check.REFUSED_ARGUMENT;
    private static final int STATE = Check.REFUSED_STATE;
    private static final int[] NO_TREES = {-1, 4, 5, Integer.MIN_VALUE, Integer.MAX_VALUE};
    /** Of an object with two editions. */
    private static final int[] NO_EDITIONS = {-1, 2, 3, 15, 16, Integer.MIN_VALUE, Integer.MAX_VALUE};
    private static final String[] NO_PATHS = {"", "/", "a/", "/a", "a//b", ".", "..", "a/..", "a b", "a>b", "a*",
        "abcdefghijklm", "a/b/c/d/e/f/g/h/i"};

    private RefusedTest() {
    }

    public static void main(String[] args) {
        trees();
        paths();
        states();
        full();
        looks();
        patterns();
        editions();
        comparisons();
        others();
        accepted();
        Check.finish("RefusedTest");
    }

    /** An object with something of everything, and with TEXT and BYTES empty. */
    private static void rich(Counted x) {
        Check.put(x, 0, "d/f", true, 1, 2);
        Check.link(x, 0, "l>d");
        Check.put(x, 0, "q", false, 3);
        Check.edition(x, 0);
        Check.remove(x, 0, "q");
        Check.put(x, 0, "d/g", false, 3);
        Check.edition(x, 0);
        Check.put(x, 1, "D/a", false, 5);
        x.back(2, 0);
        Check.ignore(x, "z*");
        Check.look(x, 0, "l/f");
        x.differ(0, 1);
    }

    private static void refused(String what, Consumer<Counted> before, ToLongFunction<Counted> call, long due) {
        Counted x = new Counted();
        before.accept(x);
        Check.same(what, call.applyAsLong(x), due);
        Twins.same(what, before, y -> call.applyAsLong(y));
    }

    /** A refused call with the TEXT, and with BYTES that it takes too, though only put makes use of them. */
    private static void refused(String what, String text, ToLongFunction<Counted> call, long due) {
        refused(what + " " + text, RefusedTest::rich, x -> {
            Check.octets(x, 9, 8);
            Check.type(x, text);
            return call.applyAsLong(x);
        }, due);
    }

    private static void trees() {
        for (int tree : NO_TREES) {
            refused("put: there is no tree " + tree, "k", x -> Check.put(x, tree, "", true), ARGUMENT);
            refused("link: there is no tree " + tree, "k>d", x -> Check.link(x, tree, ""), ARGUMENT);
            refused("folder: there is no tree " + tree, "k", x -> Check.folder(x, tree, ""), ARGUMENT);
            refused("remove: there is no tree " + tree, "d", x -> Check.remove(x, tree, ""), ARGUMENT);
            refused("look: there is no tree " + tree, "d/g", x -> Check.look(x, tree, ""), ARGUMENT);
        }
    }

    private static void paths() {
        for (String path : NO_PATHS) {
            refused("put: TEXT is no PATH", path, x -> Check.put(x, 0, "", true), ARGUMENT);
            refused("folder: TEXT is no PATH", path, x -> Check.folder(x, 0, ""), ARGUMENT);
            refused("remove: TEXT is no PATH", path, x -> Check.remove(x, 0, ""), ARGUMENT);
            refused("look: TEXT is no PATH", path, x -> Check.look(x, 0, ""), ARGUMENT);
            refused("link: the PATH is none", path + ">d", x -> Check.link(x, 0, ""), ARGUMENT);
            refused("link: the TARGET is no PATH", "k>" + path, x -> Check.link(x, 0, ""), ARGUMENT);
        }
        for (String text : new String[] {"k", ">", "k>", ">d", "k>>d", "k>d>", "k<d", "k d"}) {
            refused("link: TEXT is not a PATH, > and a TARGET", text, x -> Check.link(x, 0, ""), ARGUMENT);
        }
    }

    private static void states() {
        refused("put: a file is on the way", "d/f/k", x -> Check.put(x, 0, "", true), STATE);
        refused("put: a link is on the way", "l/k", x -> Check.put(x, 0, "", true), STATE);
        refused("put: a link is on the way to what is there", "l/f", x -> Check.put(x, 0, "", true), STATE);
        refused("put: a folder is there", "d", x -> Check.put(x, 0, "", true), STATE);
        refused("link: a file is on the way", "d/f/k>d", x -> Check.link(x, 0, ""), STATE);
        refused("link: a link is on the way", "l/k>d", x -> Check.link(x, 0, ""), STATE);
        refused("link: a folder is there", "d>l", x -> Check.link(x, 0, ""), STATE);
        refused("folder: a file is on the way", "d/f/k", x -> Check.folder(x, 0, ""), STATE);
        refused("folder: a link is on the way", "l/k", x -> Check.folder(x, 0, ""), STATE);
        refused("folder: a file at the PATH", "d/f", x -> Check.folder(x, 0, ""), STATE);
        refused("folder: a link at the PATH", "l", x -> Check.folder(x, 0, ""), STATE);
        refused("remove: there is nothing", "k", x -> Check.remove(x, 0, ""), STATE);
        refused("remove: there is nothing in the folder", "d/k", x -> Check.remove(x, 0, ""), STATE);
        refused("remove: there is no folder", "k/d/f", x -> Check.remove(x, 0, ""), STATE);
        refused("remove: a file is on the way", "d/f/f", x -> Check.remove(x, 0, ""), STATE);
        refused("remove: links on the way aren't followed", "l/f", x -> Check.remove(x, 0, ""), STATE);
        refused("remove: there is nothing in another tree", "d", x -> Check.remove(x, 3, ""), STATE);
    }

    private static void full(String what, int nodes, ToLongFunction<Counted> call) {
        refused(what, x -> Check.fill(x, 0, nodes), call, STATE);
    }

    private static void full() {
        full("put: there would be 101", 100, x -> Check.put(x, 0, "k", true, 9));
        full("put: there would be 101, in a folder that is there", 100, x -> Check.put(x, 0, "A/k", true, 9));
        full("put: there would be 101, with a folder", 99, x -> Check.put(x, 0, "k/k", true, 9));
        full("put: there would be 102, with two folders", 99, x -> Check.put(x, 0, "k/k/k", true, 9));
        full("link: there would be 101", 100, x -> Check.link(x, 0, "k>k"));
        full("link: there would be 101, with a folder", 99, x -> Check.link(x, 0, "k/k>k"));
        full("folder: there would be 101", 100, x -> Check.folder(x, 0, "k"));
        full("folder: there would be 107", 99, x -> Check.folder(x, 0, "k/k/k/k/k/k/k/k"));
    }

    /** No refusals, but a look that comes to no file does no more than these: it empties TEXT and BYTES. */
    private static void looks() {
        Consumer<Counted> before = x -> {
            rich(x);
            Check.link(x, 0, "r>r");
        };
        refused("look: NOTHING", before, x -> Check.look(x, 0, "d/k"), 0);
        refused("look: a folder", before, x -> Check.look(x, 0, "l"), 1);
        refused("look: ROUND", before, x -> Check.look(x, 0, "r/k"), 4);
    }

    private static void patterns() {
        for (String none : new String[] {"", ".", "..", "d/", "d/*", "d ", "d>", "?", "d*d*d*d*d*d*d"}) {
            refused("ignore: TEXT is no PATTERN", none, x -> Check.ignore(x, ""), ARGUMENT);
        }
        Consumer<Counted> four = x -> {
            rich(x);
            Check.ignore(x, "z");
            Check.ignore(x, "z*z");
            Check.ignore(x, "*z");
        };
        refused("ignore: there are 4", four, x -> Check.ignore(x, "d*"), STATE);
        refused("ignore: there are 4, and it is none", four, x -> Check.ignore(x, "d/"), ARGUMENT);
    }

    private static void editions() {
        for (int tree : NO_TREES) {
            refused("edition: there is no tree " + tree, RefusedTest::rich, x -> Check.edition(x, tree), ARGUMENT);
            refused("back: there is no tree " + tree, RefusedTest::rich, x -> x.back(tree, 0) ? 1 : 0, 0);
        }
        for (int edition : NO_EDITIONS) {
            refused("back: there is no edition " + edition, RefusedTest::rich, x -> x.back(0, edition) ? 1 : 0, 0);
        }
        Consumer<Counted> sixteen = x -> {
            rich(x);
            for (int i = 2; i < 16; i++) {
                Check.edition(x, i % 4);
            }
        };
        refused("edition: there are 16", sixteen, x -> Check.edition(x, 0), STATE);
        refused("edition: there are 16, and no such tree", sixteen, x -> Check.edition(x, 4), ARGUMENT);
        refused("back: there are 16, and no edition 16", sixteen, x -> x.back(0, 16) ? 1 : 0, 0);
    }

    /** Rows go, as the document says; so there are none before. */
    private static void comparisons() {
        Consumer<Counted> before = x -> {
            rich(x);
            Check.same("clashes: none", x.clashes(0), 0);
            Check.type(x, "k");
            Check.octets(x, 6);
        };
        for (int edition : NO_EDITIONS) {
            refused("differ: there is no first edition " + edition, before, x -> x.differ(edition, 1), -1);
            refused("differ: there is no second edition " + edition, before, x -> x.differ(1, edition), -1);
            refused("clashes: there is no edition " + edition, before, x -> x.clashes(edition), -1);
        }
    }

    /** Calls that take neither TEXT nor BYTES and find nothing in the rich object: each answers 0. */
    private static List<ToLongFunction<Counted>> quiet() {
        List<ToLongFunction<Counted>> calls = new ArrayList<>();
        for (int edition : NO_EDITIONS) {
            calls.add(x -> x.digest(edition));
            calls.add(x -> x.nodes(edition) + 1);
        }
        for (int tree : NO_TREES) {
            calls.add(x -> x.changes(tree) + 1);
            calls.add(x -> x.change(tree, 0, 0));
            calls.add(x -> x.seen(tree) ? 1 : 0);
        }
        for (int i : new int[] {-1, 1, 2, Integer.MIN_VALUE, Integer.MAX_VALUE}) {
            calls.add(x -> x.row(i) + 1);
            calls.add(x -> x.path(i, false, 0));
            calls.add(x -> x.path(i, true, 0));
        }
        for (int k : new int[] {-1, 3, Integer.MIN_VALUE, Integer.MAX_VALUE}) {
            calls.add(x -> x.byteAt(k) + 1);
            calls.add(x -> x.path(0, false, k));
            calls.add(x -> x.path(0, true, k));
            calls.add(x -> x.change(1, 0, k));
        }
        for (int c : new int[] {0, 31, 127, 128, 65535}) {
            calls.add(x -> x.type((char) c) ? 1 : 0);
        }
        for (int b : new int[] {-1, 256, Integer.MIN_VALUE, Integer.MAX_VALUE}) {
            calls.add(x -> x.octet(b) ? 1 : 0);
        }
        return calls;
    }

    private static void others() {
        Consumer<Counted> typed = x -> {
            rich(x);
            Check.type(x, "k");
            Check.octets(x, 6, 5);
        };
        int number = 0;
        for (ToLongFunction<Counted> call : quiet()) {
            number++;
            refused("there is none such, call " + number, typed, call, 0);
        }
        Counted x = new Counted();
        typed.accept(x);
        for (int edition : NO_EDITIONS) {
            x.differ(edition, 0);
            x.clashes(edition);
        }
        for (int tree : NO_TREES) {
            Check.edition(x, tree);
            x.back(tree, 0);
        }
        x.type('\n');
        x.octet(256);
        Check.same("TEXT is as it was", Check.put(x, 3, "", false), 1);
        Check.same("TEXT is as it was, and no more", Check.look(x, 3, "k"), 2);
        Check.same("BYTES are as they were", Check.bytes(x), "6 5 ");
    }

    private static void empties(String what, String text, ToLongFunction<Counted> call, long due) {
        Counted x = new Counted();
        rich(x);
        Check.octets(x, 9, 8);
        Check.type(x, text);
        Check.same(what, call.applyAsLong(x), due);
        Check.same(what + " empties both", Twins.room(x), "120 and 40");
    }

    private static void accepted() {
        empties("put", "k/k", x -> Check.put(x, 0, "", false), 2);
        empties("put in place", "d/f", x -> Check.put(x, 0, "", false), 0);
        empties("link", "k>d", x -> Check.link(x, 0, ""), 1);
        empties("link in place", "l>d", x -> Check.link(x, 0, ""), 0);
        empties("folder", "k", x -> Check.folder(x, 0, ""), 1);
        empties("folder that is there", "d", x -> Check.folder(x, 0, ""), 0);
        empties("remove", "d", x -> Check.remove(x, 0, ""), 3);
        empties("look at NOTHING", "k", x -> Check.look(x, 0, ""), 0);
        empties("look at a folder", "d", x -> Check.look(x, 0, ""), 1);
        empties("look at a file", "d/g", x -> Check.look(x, 0, ""), 2);
        empties("look at an executable one", "d/f", x -> Check.look(x, 0, ""), 3);
        empties("ignore", "k*", x -> Check.ignore(x, ""), 0);
    }
}
