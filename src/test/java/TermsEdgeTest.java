import java.math.BigInteger;
import java.util.List;
import java.util.function.ToLongFunction;

/** "What it is" and "Terms": each sentence with a bound, at the last input it allows and the first it does not. */
final class TermsEdgeTest {
    private static final int ARGUMENT = Check.REFUSED_ARGUMENT;
    private static final int STATE = Check.REFUSED_STATE;
    private static final String TWELVE = "abcdefghijkl";
    private static final String EIGHT = "a/b/c/d/e/f/g/h";
    /** All NAMES of one character, in the order of FOLDERS. */
    private static final String SINGLE = "-0123456789ABCDEFGHIJKLMNOPQRSTUVWXYZ_abcdefghijklmnopqrstuvwxyz";
    private static final String[] SOME = {"a", "b", "ab", "ba", "aa", "aab", "aba", "a.b", "a.", ".b", "A", TWELVE,
        "aaaaaaaaaaaa"};

    private TermsEdgeTest() {
    }

    public static void main(String[] args) {
        lastCalls();
        textTakes120();
        textOf120();
        textCodes();
        bytesTake40();
        byteNumbers();
        nameLengths();
        nameCharacters();
        nameDots();
        pathLengths();
        pathSlashes();
        eightDeep();
        eightDeepIsTheSame();
        treesAreEmptyAtFirst();
        treesHave100Nodes();
        ignoredNodesCount();
        backFills();
        followedToNothing();
        followedRound();
        followedRoundMidway();
        digestHas64Bits();
        digestOfEach();
        editionsAre16();
        patternsAre4();
        patternLengths();
        stars();
        orderOfCharacters();
        orderOfBeginnings();
        ordersOfMaking();
        samePathAsAFolder();
        samePathAsAFolderBelow();
        firstAddedIsTaken();
        onlyFilesAreRenamed();
        Check.finish("TermsEdgeTest");
    }

    private static void last(String call, String text, ToLongFunction<Counted> answer, long due) {
        Counted x = new Counted();
        Check.put(x, 0, "d/f", true, 1, 2);
        Check.look(x, 0, "d/f");
        Check.edition(x, 1);
        Check.edition(x, 0);
        x.differ(0, 1);
        Check.type(x, text);
        while (x.calls() < Counted.MOST_CALLS - 1) {
            x.size();
        }
        Check.same("at most 512 calls: the 512th is " + call, answer.applyAsLong(x), due);
        Check.same("at most 512 calls: there were 512 with " + call, x.calls(), 512);
    }

    private static void lastCalls() {
        last("type", "", x -> x.type('a') ? 1 : 0, 1);
        last("octet", "", x -> x.octet(0) ? 1 : 0, 1);
        last("put", EIGHT, x -> Check.put(x, 0, "", false), 8);
        last("put that is refused", "d", x -> Check.put(x, 0, "", false), STATE);
        last("link", "l>d", x -> Check.link(x, 0, ""), 1);
        last("folder", "d/e", x -> Check.folder(x, 0, ""), 1);
        last("remove", "d", x -> Check.remove(x, 0, ""), 2);
        last("look", "d/f", x -> Check.look(x, 0, ""), 3);
        last("size", "", x -> x.size(), 2);
        last("byteAt", "", x -> x.byteAt(1), 2);
        last("edition", "", x -> Check.edition(x, 0), 2);
        last("back", "", x -> x.back(0, 0) ? 1 : 0, 1);
        last("digest", "", x -> x.digest(0), 29);
        last("nodes", "", x -> x.nodes(1), 2);
        last("ignore", "d", x -> Check.ignore(x, ""), 0);
        last("differ", "", x -> x.differ(1, 0), 1);
        last("clashes", "", x -> x.clashes(1), 0);
        last("row", "", x -> x.row(0), 0);
        last("path", "", x -> x.path(0, false, 2), 'f');
        last("changes", "", x -> x.changes(0), 1);
        last("change", "", x -> x.change(0, 0, 2), 'f');
        last("seen", "", x -> x.seen(0) ? 1 : 0, 1);
    }

    private static void textTakes120() {
        Counted x = new Counted();
        for (int i = 1; i <= 120; i++) {
            Check.same("TEXT takes at most 120 characters: " + i, x.type('a'), true);
        }
        for (char c : new char[] {'a', ' ', '~', '/'}) {
            Check.same("TEXT takes at most 120 characters: 121 with " + c, x.type(c), false);
        }
        Check.same("TEXT takes at most 120 characters: as NAME", Check.put(x, 0, "", false), ARGUMENT);
        Check.same("TEXT takes at most 120 characters: then 120 again", Twins.room(x), "120 and 40");
    }

    /** The longest PATH has 103 characters, so that a full TEXT can only be a link's. */
    private static void textOf120() {
        String path = String.join("/", TWELVE, TWELVE, TWELVE, TWELVE, TWELVE, TWELVE, TWELVE, TWELVE);
        for (int length = 119; length <= 121; length++) {
            Counted x = new Counted();
            String text = (path + ">" + TWELVE + "/efgh").substring(0, length);
            Check.type(x, text);
            Check.same("TEXT of " + length + ": link", Check.link(x, 2, ""), 8);
            String target = text.substring(104, Math.min(length, 120));
            Check.same("TEXT of " + length + ": the TARGET's file", Check.put(x, 2, target, true), 1);
            Check.same("TEXT of " + length + ": is come to", Check.look(x, 2, path), 3);
        }
    }

    private static void textCodes() {
        for (int code = 0; code < 65536; code++) {
            boolean due = code >= 32 && code <= 126;
            Check.same("characters with codes 32 .. 126: " + code, new Counted().type((char) code), due);
        }
    }

    private static void bytesTake40() {
        for (int count = 0; count <= 41; count++) {
            Counted x = new Counted();
            StringBuilder due = new StringBuilder();
            for (int i = 0; i < count; i++) {
                Check.same("BYTES take at most 40: " + i, x.octet(255 - i), i < 40);
                due.append(i < 40 ? 255 - i + " " : "");
            }
            Check.put(x, 0, "a", false);
            Check.look(x, 0, "a");
            Check.same("BYTES take at most 40: " + count, x.size(), Math.min(count, 40));
            Check.same("BYTES take at most 40: in turn", Check.bytes(x), due.toString());
            Check.same("BYTES take at most 40: then 40 again", Twins.room(x), "120 and 40");
        }
    }

    private static void byteNumbers() {
        int[] wrong = {-1, -2, -255, -256, -257, 256, 257, 511, 512, 65536, Integer.MIN_VALUE, Integer.MAX_VALUE};
        for (int b : wrong) {
            Check.same("numbers 0 .. 255: " + b, new Counted().octet(b), false);
        }
        for (int b = 0; b < 256; b++) {
            Counted x = new Counted();
            Check.same("numbers 0 .. 255: " + b, x.octet(b), true);
            Check.put(x, 0, "a", false);
            Check.look(x, 0, "a");
            Check.same("numbers 0 .. 255: there is " + b, x.byteAt(0), b);
        }
    }

    /** Whether a text is a PATH, asked of every call that takes one. */
    private static void path(String path, boolean due) {
        int names = path.split("/", -1).length;
        Check.same("put " + path, Check.put(new Counted(), 0, path, false), due ? names : ARGUMENT);
        Check.same("link " + path, Check.link(new Counted(), 0, path + ">t"), due ? names : ARGUMENT);
        Check.same("link to " + path, Check.link(new Counted(), 0, "s>" + path), due ? 1 : ARGUMENT);
        Check.same("folder " + path, Check.folder(new Counted(), 0, path), due ? names : ARGUMENT);
        Check.same("remove " + path, Check.remove(new Counted(), 0, path), due ? STATE : ARGUMENT);
        Check.same("look " + path, Check.look(new Counted(), 0, path), due ? 0 : ARGUMENT);
    }

    /** The same for a NAME, at each place that a NAME may have. */
    private static void name(String name, boolean due) {
        path(name, due);
        path(name + "/y", due);
        path("x/" + name, due);
        path("x/" + name + "/y", due);
        path("a/b/c/d/e/f/g/" + name, due);
    }

    private static void nameLengths() {
        for (int length = 0; length <= 14; length++) {
            name("abcdefghijklmn".substring(0, length), length >= 1 && length <= 12);
        }
    }

    private static void nameCharacters() {
        for (char c = 32; c <= 126; c++) {
            boolean due = SINGLE.indexOf(c) >= 0 || c == '.';
            path("" + c, due && c != '.');
            path("a" + c, due);
            path(c + "a", due);
            path("a" + c + "b", due || c == '/');
            path("a/b" + c + "b/c", due || c == '/');
        }
    }

    private static void nameDots() {
        String[] names = {"...", "....", "............", ".a", "..a", "a.", "a..", "a..b", ".-", "_.", ".A.", ".0"};
        for (String name : names) {
            name(name, true);
        }
        name(".", false);
        name("..", false);
        name(".............", false);
    }

    private static void pathLengths() {
        StringBuilder small = new StringBuilder();
        StringBuilder large = new StringBuilder();
        for (int names = 1; names <= 10; names++) {
            small.append(names == 1 ? "" : "/").append("abcdefghij".charAt(names - 1));
            path(small.toString(), names <= 8);
            large.append(names == 1 ? "" : "/").append(TWELVE);
            if (names < 10) {
                path(large.toString(), names <= 8);
            }
        }
        Counted x = new Counted();
        String longest = large.substring(0, 103);
        Check.put(x, 0, longest, false);
        Check.same("one to eight NAMES: all characters are watched", Check.changes(x, 0), longest);
        Check.edition(x, 0);
        Check.edition(x, 1);
        x.differ(0, 1);
        Check.same("one to eight NAMES: all characters are in a row", Check.rows(x), "1" + longest);
    }

    private static void pathSlashes() {
        String[] wrong = {"", "/", "//", "///", "a/", "/a", "a//b", "a/b/", "/a/b", "a/b//", EIGHT + "/", "/" + EIGHT,
            "a/b/c/d//f/g/h", "a / b"};
        for (String path : wrong) {
            path(path, false);
        }
        path("a/b", true);
        path("a/a/a/a/a/a/a/a", true);
    }

    /** What is eight NAMES deep is counted, compared and found as anything else. */
    private static void eightDeep() {
        Counted x = new Counted();
        Check.put(x, 0, EIGHT, false, 1);
        Check.put(x, 0, "a/b/c/d/e/f/g/H", false, 2);
        Check.link(x, 0, "a/b/c/d/e/f/g/l>a");
        Check.edition(x, 0);
        Check.put(x, 0, EIGHT, true, 1);
        Check.put(x, 0, "a/b/c/d/e/f/g/H", false, 3);
        Check.link(x, 0, "a/b/c/d/e/f/g/l>b");
        Check.edition(x, 0);
        Check.same("eight deep: nodes", x.nodes(0), 10);
        Check.same("eight deep: differ", differ(x, 0, 1), "2a/b/c/d/e/f/g/H 3a/b/c/d/e/f/g/h 4a/b/c/d/e/f/g/l");
        Check.same("eight deep: clashes", x.clashes(0), 1);
        Check.same("eight deep: the clash", Check.rows(x), "6" + EIGHT);
        Check.ignore(x, "h");
        Check.same("eight deep: nodes that aren't IGNORED", x.nodes(0), 9);
        Check.same("eight deep: differ, but for what is IGNORED", x.differ(0, 1), 2);
        Check.same("eight deep: clashes, but for what is IGNORED", x.clashes(0), 0);
        Counted renamed = new Counted();
        Check.put(renamed, 0, EIGHT, false, 1);
        Check.edition(renamed, 0);
        Check.put(renamed, 1, "A/b/c/d/e/f/g/h", false, 1);
        Check.edition(renamed, 1);
        Check.same("eight deep: renamed", differ(renamed, 0, 1), "5" + EIGHT + ">A/b/c/d/e/f/g/h");
    }

    private static void eightDeepIsTheSame() {
        Counted x = new Counted();
        for (int tree = 0; tree < 3; tree++) {
            Check.folder(x, tree, EIGHT);
        }
        Check.put(x, 1, "a/b/c/d/e/f/g/i", false, 1);
        for (int tree = 0; tree < 3; tree++) {
            Check.edition(x, tree);
            x.seen(tree);
        }
        x.back(2, 0);
        Check.same("eight deep: back to the same", x.changes(2), 0);
        x.back(2, 1);
        Check.same("eight deep: back to another one", x.changes(2), -2);
        Check.put(x, 1, "a/b/c/d/e/f/g/i", false, 1);
        Check.same("eight deep: the same file", x.changes(1), 0);
        Check.put(x, 1, "a/b/c/d/e/f/g/i", true, 1);
        Check.same("eight deep: another one", x.changes(1), 1);
    }

    private static void treesAreEmptyAtFirst() {
        for (int tree = 0; tree < 4; tree++) {
            Counted x = new Counted();
            Check.same("TREES 0 .. 3: empty to look", Check.look(x, tree, "a"), 0);
            Check.same("TREES 0 .. 3: empty to remove", Check.remove(x, tree, "a"), STATE);
            Check.same("TREES 0 .. 3: no changes", x.changes(tree), 0);
            Check.same("TREES 0 .. 3: edition", Check.edition(x, tree), 0);
            Check.same("TREES 0 .. 3: no nodes", x.nodes(0), 0);
            Check.same("TREES 0 .. 3: digest of an empty folder", x.digest(0), 29);
            Check.put(x, tree, "a", false);
            for (int other = 0; other < 4; other++) {
                Check.same("TREES 0 .. 3: each its own", Check.look(x, other, "a"), other == tree ? 2 : 0);
            }
        }
    }

    private static int add(Counted x, int call, String path) {
        if (call == 0) {
            return Check.put(x, 0, path, true, 1);
        }
        return call == 1 ? Check.link(x, 0, path + ">z") : Check.folder(x, 0, path);
    }

    private static void treesHave100Nodes() {
        for (int call = 0; call < 3; call++) {
            Counted x = new Counted();
            Check.fill(x, 0, 98);
            Check.same("at most 100 NODES: three more", add(x, call, "x/y/z"), STATE);
            Check.same("at most 100 NODES: two more", add(x, call, "x/y"), 2);
            Check.same("at most 100 NODES: one more", add(x, call, "z"), STATE);
            Check.same("at most 100 NODES: one more in a folder", add(x, call, "x/z"), STATE);
            Check.same("at most 100 NODES: in place", add(x, call, "x/y"), 0);
            Check.same("at most 100 NODES: itself not counted", x.nodes(Check.edition(x, 0)), 100);
            Check.same("at most 100 NODES: one goes", Check.remove(x, 0, "x/y"), 1);
            Check.same("at most 100 NODES: two more for one", add(x, call, "y/z"), STATE);
            Check.same("at most 100 NODES: one more for one", add(x, call, "z"), 1);
            Check.same("at most 100 NODES: full again", add(x, call, "y"), STATE);
            Check.same("at most 100 NODES: of the other trees none", Check.put(x, 3, EIGHT, false), 8);
        }
    }

    private static void ignoredNodesCount() {
        Counted x = new Counted();
        Check.ignore(x, "*");
        Check.fill(x, 0, 100);
        Check.same("at most 100 NODES: IGNORED or not", Check.put(x, 0, "x", false), STATE);
        Check.same("at most 100 NODES: all IGNORED", x.nodes(Check.edition(x, 0)), 0);
    }

    private static void backFills() {
        Counted x = new Counted();
        Check.fill(x, 0, 100);
        Check.edition(x, 0);
        x.back(1, 0);
        Check.same("at most 100 NODES: behind a back", Check.put(x, 1, "x", false), STATE);
        Check.edition(x, 2);
        x.back(0, 1);
        Check.same("at most 100 NODES: behind a back to none", Check.put(x, 0, "x", false), 1);
        Check.same("at most 100 NODES: still in the other tree", Check.folder(x, 1, "x"), STATE);
    }

    private static void followedToNothing() {
        Counted x = new Counted();
        Check.put(x, 0, "d/e/f", false);
        Check.link(x, 0, "toFolder>d/e");
        Check.link(x, 0, "toFile>d/e/f");
        Check.link(x, 0, "toNone>d/x");
        Check.link(x, 0, "intoFile>d/e/f/f");
        Check.link(x, 0, "d/toFolder>e");
        String[] nothing = {"x", "d/x", "d/e/x", "x/e/f", "d/x/f", "d/e/f/x", "d/e/f/f/f/f/f/f", "toFolder/x",
            "toFile/f", "toNone", "toNone/f", "intoFile", "d/toFolder", "toFolder/toFolder", "D", "d/E"};
        for (String path : nothing) {
            Check.same("it comes to NOTHING: " + path, Check.look(x, 0, path), 0);
        }
        Check.same("it comes to NOTHING: but here to a file", Check.look(x, 0, "toFolder/f"), 2);
        Check.same("it comes to NOTHING: but here to a folder", Check.look(x, 0, "toFolder"), 1);
        Check.folder(x, 0, "e");
        Check.same("it comes to NOTHING: no more", Check.look(x, 0, "d/toFolder"), 1);
    }

    private static void followedRound() {
        Counted x = new Counted();
        Check.put(x, 0, "A", true);
        for (char c = 'B'; c <= 'T'; c++) {
            Check.link(x, 0, c + ">" + (char) (c - 1));
        }
        Check.same("it goes ROUND: one LINK", Check.look(x, 0, "B"), 3);
        Check.same("it goes ROUND: fifteen", Check.look(x, 0, "P"), 3);
        Check.same("it goes ROUND: sixteen", Check.look(x, 0, "Q"), 3);
        Check.same("it goes ROUND: seventeen", Check.look(x, 0, "R"), 4);
        Check.same("it goes ROUND: nineteen", Check.look(x, 0, "T"), 4);
        Check.same("it goes ROUND: sixteen, and NAMES left behind a file", Check.look(x, 0, "Q/x"), 0);
        Check.same("it goes ROUND: seventeen, and NAMES left", Check.look(x, 0, "R/x"), 4);
        Check.remove(x, 0, "A");
        Check.same("it goes ROUND: sixteen to NOTHING", Check.look(x, 0, "Q"), 0);
        Check.same("it goes ROUND: seventeen to NOTHING", Check.look(x, 0, "R"), 4);
        Check.link(x, 0, "A>A");
        Check.same("it goes ROUND: a LINK to itself", Check.look(x, 0, "A"), 4);
        Check.same("it goes ROUND: to a LINK to itself", Check.look(x, 0, "Q"), 4);
        Check.link(x, 0, "A>A/x");
        Check.same("it goes ROUND: a LINK into itself", Check.look(x, 0, "A"), 4);
        Check.link(x, 0, "A>B");
        Check.same("it goes ROUND: two LINKS", Check.look(x, 0, "A/x/y"), 4);
    }

    /** LINKS on the way count as those at the end do. */
    private static void followedRoundMidway() {
        Counted x = new Counted();
        Check.put(x, 1, "d/f", false);
        Check.link(x, 1, "d/u>d");
        Check.link(x, 1, "v>d/u/u/u/u/u/u/u");
        Check.same("a seventeenth LINK: seven", Check.look(x, 1, "d/u/u/u/u/u/u/u"), 1);
        Check.same("a seventeenth LINK: fifteen", Check.look(x, 1, "v/u/u/u/u/u/u/u"), 1);
        Check.link(x, 1, "w>v/u");
        Check.same("a seventeenth LINK: sixteen", Check.look(x, 1, "w/u/u/u/u/u/u"), 1);
        Check.same("a seventeenth LINK: seventeen", Check.look(x, 1, "w/u/u/u/u/u/u/u"), 4);
        Check.same("a seventeenth LINK: sixteen, then a file", Check.look(x, 1, "w/u/u/u/u/u/u/f"), 2);
        Check.same("a seventeenth LINK: sixteen, then NOTHING", Check.look(x, 1, "w/u/u/u/u/u/u/x"), 0);
        Check.link(x, 1, "y>w/u");
        Check.same("a seventeenth LINK: the last one in the PATH", Check.look(x, 1, "y/u/u/u/u/u"), 4);
        Check.same("a seventeenth LINK: sixteen in three TARGETS", Check.look(x, 1, "y/u/u/u/u"), 1);
        Check.same("a seventeenth LINK: NOTHING before it", Check.look(x, 1, "x/u/u/u/u/u/u/u"), 0);
    }

    /** The DIGEST by numbers of any size; its lowest 64 bits are due. */
    private static BigInteger digest(int start, Object... parts) {
        BigInteger h = BigInteger.valueOf(start);
        for (Object part : parts) {
            if (part instanceof String text) {
                for (char c : text.toCharArray()) {
                    h = h.multiply(BigInteger.valueOf(1000003)).add(BigInteger.valueOf(c));
                }
            } else {
                BigInteger number = part instanceof BigInteger big ? big : BigInteger.valueOf((Integer) part + 1);
                h = h.multiply(BigInteger.valueOf(1000003)).add(number);
            }
        }
        return h;
    }

    private static void digestHas64Bits() {
        for (int count = 0; count <= 40; count++) {
            Counted x = new Counted();
            Object[] bytes = new Object[count];
            for (int i = 0; i < count; i++) {
                bytes[i] = 255 - i * 6;
                x.octet(255 - i * 6);
            }
            Check.put(x, 0, "a", count % 2 == 0);
            Check.edition(x, 0);
            BigInteger due = digest(29, "a", digest(count % 2 == 0 ? 19 : 17, bytes));
            Check.same("DIGEST (64 bits) of " + count, x.digest(0), due.longValue());
        }
    }

    private static void digestOfEach() {
        Counted x = new Counted();
        Check.put(x, 0, "x/" + TWELVE, false);
        Check.put(x, 0, "x/b", true, 0, 255);
        Check.link(x, 0, "y>x/b");
        Check.folder(x, 0, "x/a/-");
        Check.edition(x, 0);
        BigInteger inner = digest(29, "-", digest(29));
        BigInteger folder = digest(29, "a", inner, TWELVE, digest(17), "b", digest(19, 0, 255));
        BigInteger due = digest(29, "x", folder, "y", digest(23, "x/b"));
        Check.same("DIGEST of each", x.digest(0), due.longValue());
        Counted deep = new Counted();
        Check.folder(deep, 0, EIGHT);
        Check.edition(deep, 0);
        due = digest(29);
        for (char c = 'h'; c >= 'a'; c--) {
            due = digest(29, "" + c, due);
        }
        Check.same("DIGEST from eight deep upwards", deep.digest(0), due.longValue());
    }

    private static void editionsAre16() {
        Counted x = new Counted();
        for (int i = 0; i < 16; i++) {
            Check.same("EDITIONS, at most 16: none yet", x.nodes(i), -1);
            Check.put(x, 0, "" + SINGLE.charAt(i), false);
            Check.same("EDITIONS, at most 16, from 0: " + i, Check.edition(x, 0), i);
        }
        Check.same("EDITIONS, at most 16: 17", Check.edition(x, 1), STATE);
        Check.same("EDITIONS, at most 16: none such", x.nodes(16), -1);
        for (int i = 0; i < 16; i++) {
            Check.same("EDITIONS are trees as they were", x.nodes(i), i + 1);
        }
        Check.same("EDITIONS: back to the first one", x.back(0, 0), true);
        Check.same("EDITIONS: its second file", Check.look(x, 0, "" + SINGLE.charAt(1)), 0);
        Check.same("EDITIONS: back to the last one", x.back(0, 15), true);
        Check.same("EDITIONS: its last file", Check.look(x, 0, "" + SINGLE.charAt(15)), 2);
        Check.same("EDITIONS: a refused one is none", Check.edition(x, 0), STATE);
    }

    private static void patternsAre4() {
        Counted x = new Counted();
        for (String name : new String[] {"a", "b", "c", "d", "e"}) {
            Check.put(x, 0, name, false);
        }
        Check.edition(x, 0);
        for (int i = 0; i < 5; i++) {
            Check.same("PATTERNS (at most 4): before", x.nodes(0), 5 - i);
            Check.same("PATTERNS (at most 4): " + i, Check.ignore(x, "abcde".substring(i, i + 1)), i < 4 ? 0 : STATE);
        }
        Check.same("PATTERNS (at most 4): the fifth one is none", x.nodes(0), 1);
        Counted same = new Counted();
        for (int i = 0; i < 5; i++) {
            Check.same("PATTERNS (at most 4): the same one", Check.ignore(same, "a*"), i < 4 ? 0 : STATE);
        }
    }

    private static void patternLengths() {
        for (int length = 0; length <= 14; length++) {
            int due = length >= 1 && length <= 12 ? 0 : ARGUMENT;
            String name = "abcdefghijklmn".substring(0, length);
            Check.same("a NAME (1 to 12): " + length, Check.ignore(new Counted(), name), due);
            Check.same("a NAME (1 to 12): stars " + length, Check.ignore(new Counted(), "*".repeat(length)), due);
        }
        for (char c = 32; c <= 126; c++) {
            boolean fine = SINGLE.indexOf(c) >= 0 || c == '.' || c == '*';
            Check.same("a NAME with *: a" + c, Check.ignore(new Counted(), "a" + c), fine ? 0 : ARGUMENT);
            Check.same("a NAME with *: " + c, Check.ignore(new Counted(), "" + c), fine && c != '.' ? 0 : ARGUMENT);
        }
        Check.same("a NAME: ..", Check.ignore(new Counted(), ".."), ARGUMENT);
        Check.same("a NAME: ...", Check.ignore(new Counted(), "..."), 0);
        Check.same("a NAME: .*", Check.ignore(new Counted(), ".*"), 0);
        Check.same("a NAME: *.", Check.ignore(new Counted(), "*."), 0);
    }

    /** Which NAMES a PATTERN fits, out of these; each is the whole tree. */
    private static void fits(String pattern, String... names) {
        for (String name : SOME) {
            Counted x = new Counted();
            Check.put(x, 0, name, false);
            Check.edition(x, 0);
            Check.ignore(x, pattern);
            boolean due = List.of(names).contains(name);
            Check.same("* may stand for any characters: " + pattern + " " + name, x.nodes(0) == 0, due);
        }
    }

    private static void stars() {
        fits("a", "a");
        fits("A", "A");
        fits("*", SOME);
        fits("**", SOME);
        fits("a*", "a", "ab", "aa", "aab", "aba", "a.b", "a.", "abcdefghijkl", "aaaaaaaaaaaa");
        fits("*a", "a", "ba", "aa", "aba", "aaaaaaaaaaaa");
        fits("a*a", "aa", "aba", "aaaaaaaaaaaa");
        fits("*b*", "b", "ab", "ba", "aab", "aba", "a.b", ".b", "abcdefghijkl");
        fits("a*b", "ab", "aab", "a.b");
        fits("a.*", "a.b", "a.");
        fits("*.*", "a.b", "a.", ".b");
        fits("*.b", "a.b", ".b");
        fits("*a*a*", "aa", "aab", "aba", "aaaaaaaaaaaa");
        fits("abcdefghijk*", "abcdefghijkl");
        fits("*bcdefghijkl", "abcdefghijkl");
        fits("abcdef*hijkl", "abcdefghijkl");
        fits("aaaaaaaaaaaa", "aaaaaaaaaaaa");
        fits("a*a*a*a*a*a*", "aaaaaaaaaaaa");
        fits("***********l", "abcdefghijkl");
    }

    private static void orderOfCharacters() {
        Counted x = new Counted();
        for (int i = SINGLE.length() - 1; i >= 0; i--) {
            Check.put(x, 0, SINGLE.substring(i, i + 1), false);
        }
        Check.edition(x, 0);
        Check.edition(x, 1);
        Check.same("the order of FOLDERS: all NAMES of one character", x.differ(1, 0), SINGLE.length());
        for (int i = 0; i < SINGLE.length(); i++) {
            Check.same("the order of FOLDERS: by characters", x.path(i, false, 0), SINGLE.charAt(i));
        }
    }

    private static void orderOfBeginnings() {
        Counted x = new Counted();
        for (String name : new String[] {"b", "ab", "aaa", "a.b", "a_", "a-", "aa", "a", "a0", "aA", "a.", "aab"}) {
            Check.put(x, 0, name, false);
        }
        Check.edition(x, 0);
        Check.edition(x, 1);
        x.differ(0, 1);
        Check.same("one that another begins with comes first", Check.rows(x),
            "1a 1a- 1a. 1a.b 1a0 1aA 1a_ 1aa 1aaa 1aab 1ab 1b");
        Check.remove(x, 0, "a");
        Check.put(x, 0, "a/z", false);
        Check.put(x, 0, "a/-/z", false);
        Check.edition(x, 0);
        x.differ(1, 2);
        Check.same("a folder's nodes in its NAME's place", Check.rows(x),
            "0a/-/z 0a/z 0a- 0a. 0a.b 0a0 0aA 0a_ 0aa 0aaa 0aab 0ab 0b");
    }

    private static void ordersOfMaking() {
        String[] names = {"a", "ab", "b", "aa", "-", "_"};
        Counted x = new Counted();
        for (int i = 0; i < names.length; i++) {
            Check.put(x, 0, "d/" + names[i], false, i);
            Check.put(x, 1, "d/" + names[5 - i], false, 5 - i);
        }
        Check.edition(x, 0);
        Check.edition(x, 1);
        Check.same("NODES in the order of their NAMES: DIGEST", x.digest(0), x.digest(1));
        Check.same("NODES in the order of their NAMES: no difference", x.differ(0, 1), 0);
    }

    private static String differ(Counted x, int first, int second) {
        int count = x.differ(first, second);
        Check.same("no row behind the last", x.row(count), -1);
        return Check.rows(x);
    }

    private static void samePathAsAFolder() {
        Counted x = new Counted();
        Check.put(x, 0, "f", false, 1);
        Check.link(x, 0, "l>f");
        Check.put(x, 0, "m", false, 2);
        Check.edition(x, 0);
        Check.put(x, 1, "f/-", false, 3);
        Check.put(x, 1, "f/z", false, 4);
        Check.link(x, 1, "l/a>f");
        Check.folder(x, 1, "m");
        Check.edition(x, 1);
        String what = "what has the same path as a folder is only in one";
        Check.same(what, differ(x, 0, 1), "1f 0f/- 0f/z 1l 0l/a 1m");
        Check.same(what + ", the other way", differ(x, 1, 0), "0f 1f/- 1f/z 0l 1l/a 0m");
        Check.edition(x, 2);
        Check.same(what + ", but with an empty tree", differ(x, 2, 1), "0f/- 0f/z 0l/a");
    }

    private static void samePathAsAFolderBelow() {
        Counted x = new Counted();
        Check.put(x, 0, "a/b/c", false, 1);
        Check.put(x, 0, "a/b-", false, 2);
        Check.edition(x, 0);
        Check.put(x, 1, "a/b", false, 3);
        Check.put(x, 1, "a/b.", false, 4);
        Check.edition(x, 1);
        Check.put(x, 2, "a", false, 5);
        Check.edition(x, 2);
        Check.same("it comes before what is in that folder", differ(x, 0, 1), "0a/b 1a/b/c 1a/b- 0a/b.");
        Check.same("it comes before what is in that folder, back", differ(x, 1, 0), "1a/b 0a/b/c 0a/b- 1a/b.");
        Check.same("it comes before all that is in that folder", differ(x, 0, 2), "0a 1a/b/c 1a/b-");
        Check.put(x, 3, "a/b", false, 1);
        Check.edition(x, 3);
        Check.same("it may be what was in that folder", differ(x, 0, 3), "5a/b/c>a/b 1a/b-");
        Check.same("it may come to be in that folder", differ(x, 3, 0), "5a/b>a/b/c 0a/b-");
    }

    private static void firstAddedIsTaken() {
        Counted x = new Counted();
        Check.put(x, 0, "m1", false, 7);
        Check.put(x, 0, "m2", false, 7);
        Check.put(x, 0, "m3", true, 7);
        Check.put(x, 0, "m4", false, 7, 7);
        Check.put(x, 0, "m5", false);
        Check.edition(x, 0);
        Check.put(x, 1, "z", false, 7);
        Check.edition(x, 1);
        Check.same("the first REMOVED file takes the only ADDED one", differ(x, 0, 1), "5m1>z 1m2 1m3 1m4 1m5");
        Check.same("the only REMOVED file takes the first ADDED one", differ(x, 1, 0), "0m2 0m3 0m4 0m5 5z>m1");
        Check.put(x, 1, "a", false, 7);
        Check.edition(x, 1);
        Check.same("the first ADDED file may come before", differ(x, 0, 2), "5m1>a 5m2>z 1m3 1m4 1m5");
        Check.put(x, 1, "b", false, 7);
        Check.put(x, 1, "n", true, 7);
        Check.put(x, 1, "o", false);
        Check.edition(x, 1);
        Check.same("not taken yet; the same BYTES and mark", differ(x, 0, 3), "5m1>a 5m2>b 5m3>n 1m4 5m5>o 0z");
    }

    private static void onlyFilesAreRenamed() {
        Counted x = new Counted();
        Check.link(x, 0, "a>t");
        Check.put(x, 0, "c", false, 1);
        Check.put(x, 0, "k", false, 2);
        Check.edition(x, 0);
        Check.link(x, 1, "b>t");
        Check.put(x, 1, "c", false, 2);
        Check.link(x, 1, "k>c");
        Check.put(x, 1, "z", false, 1);
        Check.edition(x, 1);
        Check.same("files only, and only in one", differ(x, 0, 1), "1a 0b 2c 4k 0z");
        Check.same("files only, and only in one, back", differ(x, 1, 0), "0a 1b 2c 4k 1z");
    }
}
