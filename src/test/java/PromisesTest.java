/** For each promise of the document: ordinary inputs, the edges that it names, and wrong inputs. */
final class PromisesTest {
    private static final int ARGUMENT = Check.REFUSED_ARGUMENT;
    private static final int STATE = Check.REFUSED_STATE;
    private static final int[] WRONG_TREES = {-1, 4, Integer.MIN_VALUE, Integer.MAX_VALUE};
    private static final String EIGHT = "a/b/c/d/e/f/g/h";
    private static final String TWELVE = "abcdefGHI-._";

    private PromisesTest() {
    }

    public static void main(String[] args) {
        promise1();
        promise2();
        promise3();
        promise4();
        putRefuses();
        putFills();
        promise5();
        promise6();
        promise7();
        promise8();
        lookGoesRound();
        lookFollowsLongPaths();
        lookFollowsDeepLinks();
        promises9And10();
        promise11();
        promise12();
        promise13();
        promise14();
        promise15();
        patternsFit();
        promise16();
        differOrders();
        differRenames();
        differIgnores();
        differMany();
        differRenamesMany();
        promise17();
        promises18And19();
        promise20();
        backToTheSame();
        promise21();
        promise22();
        emptying();
        Check.finish("PromisesTest");
    }

    private static void promise1() {
        Counted x = new Counted();
        Check.same("1 NONE", SourceTree.NONE, -1);
        Check.same("1 size", x.size(), -1);
        Check.same("1 byteAt", x.byteAt(0), -1);
        Check.same("1 row", x.row(0), -1);
        Check.same("1 path", x.path(0, false, 0), 0);
        Check.same("1 digest", x.digest(0), 0);
        Check.same("1 nodes", x.nodes(0), -1);
        Check.same("1 back", x.back(0, 0), false);
        for (int tree = 0; tree < 4; tree++) {
            Check.same("1 changes", x.changes(tree), 0);
            Check.same("1 look", Check.look(x, tree, "a"), 0);
            Check.same("1 empty tree", x.nodes(Check.edition(x, tree)), 0);
            Check.same("1 empty digest", x.digest(tree), 29);
        }
        Check.same("1 no TEXT", Check.put(x, 0, "", false), ARGUMENT);
    }

    private static void promise2() {
        Counted x = new Counted();
        Check.same("2 type 31", x.type((char) 31), false);
        Check.same("2 type 127", x.type((char) 127), false);
        Check.same("2 type 65535", x.type((char) 65535), false);
        Check.same("2 refused ones are not there", Check.put(x, 0, "a", false), 1);
        Check.same("2 type 32", x.type((char) 32), true);
        Check.same("2 a blank is there", Check.put(x, 0, "b", false), ARGUMENT);
        Check.same("2 type 126", x.type((char) 126), true);
        for (int i = 1; i < 120; i++) {
            Check.same("2 type below 120", x.type('a'), true);
        }
        Check.same("2 type at 120", x.type('a'), false);
        Check.same("2 too long a NAME", Check.put(x, 0, "", false), ARGUMENT);
        Check.same("2 emptied", x.type('c'), true);
        Check.same("2 in turn", Check.put(x, 0, "/d", false), 2);
    }

    private static void promise3() {
        Counted x = new Counted();
        Check.same("3 octet -1", x.octet(-1), false);
        Check.same("3 octet 256", x.octet(256), false);
        Check.same("3 octet max", x.octet(Integer.MAX_VALUE), false);
        Check.same("3 octet 0", x.octet(0), true);
        Check.same("3 octet 255", x.octet(255), true);
        for (int i = 2; i < 40; i++) {
            Check.same("3 octet below 40", x.octet(i), true);
        }
        Check.same("3 octet at 40", x.octet(1), false);
        Check.same("3 put", Check.put(x, 0, "a", false), 1);
        Check.same("3 look", Check.look(x, 0, "a"), 2);
        Check.same("3 size", x.size(), 40);
        Check.same("3 first", x.byteAt(0), 0);
        Check.same("3 second", x.byteAt(1), 255);
        Check.same("3 last", x.byteAt(39), 39);
    }

    private static void promise4() {
        Counted x = new Counted();
        Check.same("4 folders that lack", Check.put(x, 3, EIGHT, false, 7), 8);
        Check.same("4 beside", Check.put(x, 3, "a/b/x", true), 1);
        Check.same("4 in place of a file", Check.put(x, 3, "a/b/x", false, 1, 2), 0);
        Check.same("4 new BYTES", Check.look(x, 3, "a/b/x") * 10 + x.size(), 22);
        Check.link(x, 3, "l>a");
        Check.same("4 in place of a link", Check.put(x, 3, "l", true, 5), 0);
        Check.same("4 no link any more", Check.look(x, 3, "l"), 3);
        Check.same("4 other trees are others", Check.look(x, 2, "l"), 0);
        Check.same("4 longest NAME", Check.put(x, 0, TWELVE, false), 1);
        Check.same("4 dots", Check.put(x, 0, ".../.a/..b", false), 3);
        Check.same("4 case matters", Check.put(x, 0, TWELVE.toLowerCase(), false), 1);
    }

    private static void putRefuses() {
        Counted x = new Counted();
        String[] wrong = {"", "/", "a/", "/a", "a//b", ".", "..", "a/.", "../a", "a b", "a>b", "a*", "a~", TWELVE + "x",
            EIGHT + "/i", "@", "[", "`", "{", ":", ",", "a\\b"};
        for (String path : wrong) {
            Check.same("4 no PATH " + path, Check.put(x, 0, path, false), ARGUMENT);
        }
        for (int tree : WRONG_TREES) {
            Check.same("4 no tree " + tree, Check.put(x, tree, "a", false), ARGUMENT);
        }
        Check.put(x, 0, "d/f", false, 1);
        Check.link(x, 0, "l>d");
        Check.same("4 a file on the way", Check.put(x, 0, "d/f/g", false), STATE);
        Check.same("4 a link on the way", Check.put(x, 0, "l/g", false), STATE);
        Check.same("4 a folder is there", Check.put(x, 0, "d", false), STATE);
        Check.same("4 nothing was made", x.nodes(Check.edition(x, 0)), 3);
        Check.same("4 wrong tree before wrong state", Check.put(x, 4, "d", false), ARGUMENT);
        Check.same("4 refused, so not watched", Check.changes(x, 0), "d/f l");
    }

    private static void putFills() {
        Counted x = new Counted();
        Check.fill(x, 1, 98);
        Check.same("4 three more are too many", Check.put(x, 1, "p/q/r", false), STATE);
        Check.same("4 none of them is there", Check.look(x, 1, "p"), 0);
        Check.same("4 two more are not", Check.put(x, 1, "p/q", false), 2);
        Check.same("4 full", x.nodes(Check.edition(x, 1)), 100);
        Check.same("4 one more", Check.put(x, 1, "p/r", false), STATE);
        Check.same("5 one more", Check.link(x, 1, "p/r>p"), STATE);
        Check.same("6 one more", Check.folder(x, 1, "p/r"), STATE);
        Check.same("4 in place, full", Check.put(x, 1, "p/q", true), 0);
        Check.same("5 in place, full", Check.link(x, 1, "p/q>p"), 0);
        Check.same("6 there, full", Check.folder(x, 1, "p"), 0);
        Check.same("4 the other trees have room", Check.put(x, 0, "p/r", false), 2);
        Check.same("7 make room", Check.remove(x, 1, "p/q"), 1);
        Check.same("4 room again", Check.put(x, 1, "p/r", false), 1);
    }

    private static void promise5() {
        Counted x = new Counted();
        Check.same("5 link", Check.link(x, 0, "a/l>b/c"), 2);
        Check.same("5 the same one", Check.link(x, 0, "a/l>b/c"), 0);
        Check.same("5 other TARGET", Check.link(x, 0, "a/l>b"), 0);
        Check.put(x, 0, "b", false, 4);
        Check.same("5 in place of a file", Check.link(x, 0, "b>a"), 0);
        Check.same("5 follows", Check.look(x, 0, "b"), 1);
        Check.same("5 longest", Check.link(x, 1, EIGHT + ">" + TWELVE + "/" + EIGHT.substring(2)), 8);
        String[] wrong = {"", ">", "a>", ">a", "a", "a>b>c", "a> b", "a >b", "a//b>c", "a>b/", "a>.", "..>a",
            EIGHT + "/i>a", "a>" + EIGHT + "/i", "a>*", "a<b"};
        for (String text : wrong) {
            Check.same("5 wrong " + text, Check.link(x, 0, text), ARGUMENT);
        }
        for (int tree : WRONG_TREES) {
            Check.same("5 no tree " + tree, Check.link(x, tree, "a>b"), ARGUMENT);
        }
        Check.same("5 a folder is there", Check.link(x, 0, "a>b"), STATE);
        Check.same("5 a link on the way", Check.link(x, 0, "a/l/x>b"), STATE);
        Check.put(x, 0, "f", false);
        Check.same("5 a file on the way", Check.link(x, 0, "f/x>b"), STATE);
        Check.same("5 changes are of the PATH alone", Check.changes(x, 1), EIGHT);
    }

    private static void promise6() {
        Counted x = new Counted();
        Check.same("6 folder", Check.folder(x, 0, "a/b/c"), 3);
        Check.same("6 there already", Check.folder(x, 0, "a/b"), 0);
        Check.same("6 still what was in it", Check.look(x, 0, "a/b/c"), 1);
        Check.put(x, 0, "f", false);
        Check.link(x, 0, "l>a");
        Check.same("6 a file at the PATH", Check.folder(x, 0, "f"), STATE);
        Check.same("6 a link at the PATH", Check.folder(x, 0, "l"), STATE);
        Check.same("6 a file on the way", Check.folder(x, 0, "f/a"), STATE);
        Check.same("6 a link on the way", Check.folder(x, 0, "l/b"), STATE);
        Check.same("6 no PATH", Check.folder(x, 0, "a/"), ARGUMENT);
        for (int tree : WRONG_TREES) {
            Check.same("6 no tree " + tree, Check.folder(x, tree, "a"), ARGUMENT);
        }
        Check.same("6 changes", Check.changes(x, 0), "a/b/c f l");
    }

    private static void promise7() {
        Counted x = new Counted();
        Check.put(x, 0, "a/b/c", false, 1);
        Check.put(x, 0, "a/d", false, 2);
        Check.link(x, 0, "l>a");
        Check.same("7 links aren't followed", Check.remove(x, 0, "l/d"), STATE);
        Check.same("7 a file on the way", Check.remove(x, 0, "a/d/e"), STATE);
        Check.same("7 nothing", Check.remove(x, 0, "q"), STATE);
        Check.same("7 nothing within", Check.remove(x, 0, "a/b/q"), STATE);
        Check.same("7 a link itself", Check.remove(x, 0, "l"), 1);
        Check.same("7 its TARGET stays", Check.look(x, 0, "a"), 1);
        Check.same("7 a file", Check.remove(x, 0, "a/b/c"), 1);
        Check.same("7 its folder stays", Check.look(x, 0, "a/b"), 1);
        Check.same("7 with all in it", Check.remove(x, 0, "a"), 3);
        Check.same("7 gone", Check.look(x, 0, "a"), 0);
        Check.same("7 twice", Check.remove(x, 0, "a"), STATE);
        Check.same("7 no PATH", Check.remove(x, 0, ""), ARGUMENT);
        for (int tree : WRONG_TREES) {
            Check.same("7 no tree " + tree, Check.remove(x, tree, "a"), ARGUMENT);
        }
    }

    private static void promise8() {
        Counted x = new Counted();
        Check.put(x, 0, "d/e/f", false, 1);
        Check.put(x, 0, "d/x", true, 1, 2);
        Check.link(x, 0, "d/up>d");
        Check.link(x, 0, "file>d/up/up/x");
        Check.link(x, 0, "off>nowhere");
        Check.same("8 folder", Check.look(x, 0, "d"), 1);
        Check.same("8 file", Check.look(x, 0, "d/e/f"), 2);
        Check.same("8 executable", Check.look(x, 0, "d/x"), 3);
        Check.same("8 nothing", Check.look(x, 0, "d/y"), 0);
        Check.same("8 a file where a folder must be", Check.look(x, 0, "d/x/y"), 0);
        Check.same("8 through a link", Check.look(x, 0, "d/up/e/f"), 2);
        Check.same("8 a link last", Check.look(x, 0, "d/up"), 1);
        Check.same("8 TARGETS go from the tree on", Check.look(x, 0, "d/up/d"), 0);
        Check.same("8 links in a TARGET", Check.look(x, 0, "file"), 3);
        Check.same("8 a link to a file on the way", Check.look(x, 0, "file/x"), 0);
        Check.same("8 a link to nothing", Check.look(x, 0, "off"), 0);
        Check.same("8 a link in another tree", Check.look(x, 1, "d/up"), 0);
        Check.same("8 no PATH", Check.look(x, 0, "d/"), ARGUMENT);
        for (int tree : WRONG_TREES) {
            Check.same("8 no tree " + tree, Check.look(x, tree, "d"), ARGUMENT);
        }
    }

    private static void lookGoesRound() {
        Counted x = new Counted();
        Check.put(x, 0, "l0", false, 3);
        for (int i = 1; i <= 17; i++) {
            Check.link(x, 0, "l" + i + ">l" + (i - 1));
        }
        Check.same("8 sixteen links", Check.look(x, 0, "l16"), 2);
        Check.same("8 seventeen links", Check.look(x, 0, "l17"), 4);
        Check.same("8 a seventeenth one to nothing", Check.remove(x, 0, "l0"), 1);
        Check.same("8 sixteen to nothing", Check.look(x, 0, "l16"), 0);
        Check.same("8 seventeen to nothing", Check.look(x, 0, "l17"), 4);
        Check.link(x, 1, "r>r");
        Check.same("8 a link to itself", Check.look(x, 1, "r"), 4);
        Check.same("8 behind a link to itself", Check.look(x, 1, "r/x"), 4);
        Check.link(x, 1, "s>s/s/s/s/s/s/s/s");
        Check.same("8 a link that grows", Check.look(x, 1, "s/s/s/s/s/s/s/s"), 4);
        Check.folder(x, 1, "d");
        Check.link(x, 1, "d/u>d");
        Check.same("8 round a folder", Check.look(x, 1, "d/u/u/u/u/u/u/u"), 1);
        Check.link(x, 1, "v>d/u/u/u/u/u/u/u");
        Check.same("8 fifteen links in one PATH", Check.look(x, 1, "v/u/u/u/u/u/u/u"), 1);
        Check.link(x, 1, "w>v/u");
        Check.same("8 seventeen in one PATH", Check.look(x, 1, "w/u/u/u/u/u/u/u"), 4);
        Check.same("8 sixteen in one PATH", Check.look(x, 1, "w/u/u/u/u/u/u"), 1);
    }

    private static void lookFollowsLongPaths() {
        Counted x = new Counted();
        Check.folder(x, 0, EIGHT.substring(2));
        Check.put(x, 0, EIGHT, true, 8);
        Check.link(x, 0, "l>a/b/c/d/e/f");
        Check.same("8 eight NAMES with a TARGET", Check.look(x, 0, "l/g/h"), 3);
        Check.link(x, 0, "m>b/c/d/e/f/g/h");
        Check.link(x, 0, "b/c/d/e/f/g/h/n>a");
        Check.same("8 more than eight NAMES", Check.look(x, 0, "m/n/b/c/d/e/f/g"), 1);
    }

    private static void lookFollowsDeepLinks() {
        Counted x = new Counted();
        String deep = EIGHT.substring(0, 12);
        Check.put(x, 1, deep + "A", false, 8);
        for (char c = 'B'; c <= 'Q'; c++) {
            Check.link(x, 1, deep + c + ">" + deep + (char) (c - 1));
        }
        Check.same("8 seventeen times seven NAMES", Check.look(x, 1, deep + "Q"), 2);
    }

    private static void promises9And10() {
        Counted x = new Counted();
        Check.put(x, 0, "a", false, 5, 0, 255);
        Check.put(x, 0, "b", false);
        Check.folder(x, 0, "d");
        Check.same("9 put is no look", x.size(), -1);
        Check.look(x, 0, "d");
        Check.same("9 a folder is no file", x.size(), -1);
        Check.look(x, 0, "a");
        Check.same("9 size", x.size(), 3);
        Check.same("10 bytes", Check.bytes(x), "5 0 255 ");
        Check.same("10 below", x.byteAt(-1), -1);
        Check.same("10 behind", x.byteAt(3), -1);
        Check.same("10 far behind", x.byteAt(Integer.MAX_VALUE), -1);
        Check.same("10 far below", x.byteAt(Integer.MIN_VALUE), -1);
        Check.look(x, 0, "d");
        Check.look(x, 0, "q");
        Check.look(x, 4, "b");
        Check.same("9 still the last file", x.size(), 3);
        Check.put(x, 0, "a", false, 1);
        Check.remove(x, 0, "a");
        Check.same("9 the file that was looked at", Check.bytes(x), "5 0 255 ");
        Check.look(x, 0, "b");
        Check.same("9 empty", x.size(), 0);
        Check.same("10 none in an empty one", x.byteAt(0), -1);
    }

    private static void promise11() {
        Counted x = new Counted();
        for (int tree : WRONG_TREES) {
            Check.same("11 no tree " + tree, Check.edition(x, tree), ARGUMENT);
        }
        for (int i = 0; i < 16; i++) {
            Check.put(x, i % 4, "f" + i, false, i);
            Check.same("11 number", Check.edition(x, i % 4), i);
        }
        Check.same("11 there are 16", Check.edition(x, 0), STATE);
        Check.same("11 no tree, and there are 16", Check.edition(x, 4), ARGUMENT);
        for (int i = 0; i < 16; i++) {
            Check.same("11 as it was", x.nodes(i), 1 + i / 4);
        }
    }

    private static void promise12() {
        Counted x = new Counted();
        Check.put(x, 0, "a/b", false, 1);
        Check.edition(x, 0);
        Check.put(x, 0, "a/b", false, 2);
        Check.put(x, 0, "a/c", false, 3);
        Check.edition(x, 0);
        Check.same("12 back", x.back(0, 0), true);
        Check.same("12 gone", Check.look(x, 0, "a/c"), 0);
        Check.look(x, 0, "a/b");
        Check.same("12 as it was", x.byteAt(0), 1);
        Check.same("12 forth", x.back(0, 1), true);
        Check.same("12 there", Check.look(x, 0, "a/c"), 2);
        Check.same("12 into another tree", x.back(2, 1), true);
        Check.same("12 counted there", Check.remove(x, 2, "a"), 3);
        Check.same("12 not from the edition", x.nodes(1), 3);
        Check.same("12 not from the first tree", Check.look(x, 0, "a/c"), 2);
        for (int wrong : WRONG_TREES) {
            Check.same("12 no tree", x.back(wrong, 0), false);
            Check.same("12 no edition", x.back(0, wrong == 4 ? 2 : wrong), false);
        }
        Check.same("12 refused, so as it is", Check.look(x, 0, "a/c"), 2);
    }

    private static long digest(long start, long... parts) {
        long h = start;
        for (long x : parts) {
            h = 1000003L * h + x;
        }
        return h;
    }

    private static void promise13() {
        Counted x = new Counted();
        Check.put(x, 0, "b", false, 0, 255);
        Check.edition(x, 0);
        Check.same("13 a file", x.digest(0), digest(29, 'b', digest(17, 1, 256)));
        Check.put(x, 0, "b", true, 0, 255);
        Check.edition(x, 0);
        Check.same("13 executable", x.digest(1), digest(29, 'b', digest(19, 1, 256)));
        Check.put(x, 0, "b", true);
        Check.link(x, 0, "ab>c/d");
        Check.folder(x, 0, "a");
        Check.edition(x, 0);
        long link = digest(23, 'c', '/', 'd');
        Check.same("13 in order", x.digest(2), digest(29, 'a', 29, 'a', 'b', link, 'b', 19));
        Check.put(x, 0, "a/z", false, 9);
        Check.edition(x, 0);
        long folder = digest(29, 'z', digest(17, 10));
        Check.same("13 from below", x.digest(3), digest(29, 'a', folder, 'a', 'b', link, 'b', 19));
        Check.ignore(x, "*");
        Check.same("13 ignored or not", x.digest(0), digest(29, 'b', digest(17, 1, 256)));
        Check.same("13 as it was", x.digest(2), digest(29, 'a', 29, 'a', 'b', link, 'b', 19));
        Check.same("13 none below", x.digest(-1), 0);
        Check.same("13 none behind", x.digest(4), 0);
        Check.same("13 none far behind", x.digest(16), 0);
    }

    private static void promise14() {
        Counted x = new Counted();
        Check.put(x, 0, "a/b/c", false);
        Check.put(x, 0, "a/x.o", false);
        Check.put(x, 0, "out/c", false);
        Check.link(x, 0, "l>a");
        Check.edition(x, 0);
        Check.same("14 nodes", x.nodes(0), 7);
        Check.ignore(x, "*.o");
        Check.same("14 by NAME", x.nodes(0), 6);
        Check.ignore(x, "out");
        Check.same("14 and what lies in it", x.nodes(0), 4);
        Check.ignore(x, "c");
        Check.same("14 at any depth", x.nodes(0), 3);
        Check.ignore(x, "a/b");
        Check.ignore(x, "*");
        Check.same("14 all", x.nodes(0), 0);
        Check.same("14 none below", x.nodes(-1), -1);
        Check.same("14 none behind", x.nodes(1), -1);
        Check.same("14 none far behind", x.nodes(Integer.MAX_VALUE), -1);
    }

    private static void promise15() {
        Counted x = new Counted();
        String[] wrong = {"", ".", "..", "a/b", "a b", TWELVE + "*", "a>b", "a?", "~"};
        for (String pattern : wrong) {
            Check.same("15 none " + pattern, Check.ignore(x, pattern), ARGUMENT);
        }
        Check.same("15 longest", Check.ignore(x, "*bcdefghijk*"), 0);
        Check.same("15 a star", Check.ignore(x, "q*"), 0);
        Check.same("15 the same again", Check.ignore(x, "q*"), 0);
        Check.same("15 dots and a star", Check.ignore(x, "..*"), 0);
        Check.same("15 there are 4", Check.ignore(x, "b"), STATE);
        Check.same("15 none, and there are 4", Check.ignore(x, "/"), ARGUMENT);
        Check.put(x, 0, "b", false);
        Check.put(x, 0, "..b", false);
        Check.edition(x, 0);
        Check.same("15 refused, so not ignored", x.nodes(0), 1);
    }

    private static void fits(String pattern, String name, boolean due) {
        Counted x = new Counted();
        Check.ignore(x, pattern);
        Check.put(x, 0, name, false);
        Check.edition(x, 0);
        Check.same("15 " + pattern + " fits " + name, x.nodes(0) == 0, due);
    }

    private static void patternsFit() {
        fits("a", "a", true);
        fits("a", "ab", false);
        fits("ab", "a", false);
        fits("a", "A", false);
        fits("*", "abcdefghijkl", true);
        fits("a*", "a", true);
        fits("a*", "ba", false);
        fits("*a", "ba", true);
        fits("*a", "ab", false);
        fits("a*b", "ab", true);
        fits("a*b", "axyzb", true);
        fits("a*b", "axbc", false);
        fits("a*b", "a", false);
        fits("*ab", "aab", true);
        fits("*aab*", "aaab", true);
        fits("*a*b*", "xbxa", false);
        fits("*a*b*", "xaxb", true);
        fits("a*a", "a", false);
        fits("*.c", "xc", false);
        fits("*.c", ".c", true);
        fits("***********b", "aaaaaaaaaaaa", false);
        fits("***********b", "aaaaaaaaaaab", true);
        fits("************", "a", true);
        fits("abcdefghijkl", "abcdefghijkl", true);
        fits("abcdefghijk*", "abcdefghijkl", true);
    }

    private static String differ(Counted x, int first, int second) {
        int count = x.differ(first, second);
        Check.same("16 no rows behind the last", x.row(count), -1);
        return Check.rows(x);
    }

    private static void promise16() {
        Counted x = new Counted();
        Check.put(x, 0, "content", false, 1);
        Check.put(x, 0, "mark", false, 2);
        Check.put(x, 0, "both", false, 3);
        Check.put(x, 0, "kind", false, 4);
        Check.link(x, 0, "link>a");
        Check.link(x, 0, "target>a");
        Check.put(x, 0, "same", true, 5);
        Check.put(x, 0, "gone", false, 6);
        Check.folder(x, 0, "empty");
        Check.edition(x, 0);
        Check.put(x, 0, "content", false, 1, 1);
        Check.put(x, 0, "mark", true, 2);
        Check.put(x, 0, "both", true, 4);
        Check.link(x, 0, "kind>a");
        Check.put(x, 0, "link", false, 7);
        Check.link(x, 0, "target>b");
        Check.remove(x, 0, "gone");
        Check.remove(x, 0, "empty");
        Check.folder(x, 0, "other");
        Check.put(x, 0, "here", false, 8);
        Check.edition(x, 0);
        Check.same("16 rows", differ(x, 0, 1), "2both 2content 1gone 0here 4kind 4link 3mark 4target");
        Check.same("16 the other way", differ(x, 1, 0), "2both 2content 0gone 1here 4kind 4link 3mark 4target");
        Check.same("16 with itself", x.differ(1, 1), 0);
        Check.same("16 with itself, no rows", x.row(0), -1);
        int[][] wrong = {{-1, 0}, {0, -1}, {2, 0}, {0, 2}, {16, 0}, {0, Integer.MAX_VALUE}};
        for (int[] pair : wrong) {
            x.differ(0, 1);
            Check.same("16 none such", x.differ(pair[0], pair[1]), -1);
            Check.same("16 none such, no rows", x.row(0), -1);
        }
    }

    private static void differOrders() {
        Counted x = new Counted();
        Check.put(x, 0, "a/z", false, 1);
        Check.put(x, 0, "a-", false, 2);
        Check.put(x, 0, "ab", false, 3);
        Check.put(x, 0, "B", false, 4);
        Check.put(x, 0, "f", false, 5);
        Check.put(x, 0, "g/x/y", false, 6);
        Check.link(x, 0, "g/b>c");
        Check.edition(x, 0);
        Check.edition(x, 1);
        Check.same("16 order of FOLDERS", differ(x, 0, 1), "1B 1a/z 1a- 1ab 1f 1g/b 1g/x/y");
        Check.same("16 order of FOLDERS, added", differ(x, 1, 0), "0B 0a/z 0a- 0ab 0f 0g/b 0g/x/y");
        Check.put(x, 1, "a", false, 11);
        Check.put(x, 1, "f/p", false, 12);
        Check.put(x, 1, "f/A", false, 13);
        Check.link(x, 1, "g>a");
        Check.edition(x, 1);
        Check.same("16 a file and a folder", differ(x, 0, 2), "1B 0a 1a/z 1a- 1ab 1f 0f/A 0f/p 0g 1g/b 1g/x/y");
        Check.same("16 a folder and a file", differ(x, 2, 0), "0B 1a 0a/z 0a- 0ab 0f 1f/A 1f/p 1g 0g/b 0g/x/y");
    }

    private static void differRenames() {
        Counted x = new Counted();
        Check.put(x, 0, "p", false, 1);
        Check.put(x, 0, "q", false, 1);
        Check.put(x, 0, "r", false, 1);
        Check.put(x, 0, "s", true, 1);
        Check.put(x, 0, "t", false);
        Check.link(x, 0, "l>p");
        Check.edition(x, 0);
        Check.put(x, 1, "a/b", false, 1);
        Check.put(x, 1, "z", false, 1);
        Check.put(x, 1, "u", false);
        Check.put(x, 1, "v", false);
        Check.link(x, 1, "m>p");
        Check.edition(x, 1);
        Check.same("16 renames", differ(x, 0, 1), "1l 0m 5p>a/b 5q>z 1r 1s 5t>u 0v");
        Check.same("16 renames back", differ(x, 1, 0), "5a/b>p 0l 1m 0r 0s 5u>t 1v 5z>q");
        Check.put(x, 2, "p/x", false, 1);
        Check.put(x, 2, "k", false, 2);
        Check.edition(x, 2);
        Check.remove(x, 2, "p");
        Check.put(x, 2, "p", false, 1);
        Check.put(x, 2, "k", false, 1);
        Check.edition(x, 2);
        Check.same("16 out of a folder into its place", differ(x, 2, 3), "2k 5p/x>p");
        Check.same("16 into a folder in its place", differ(x, 3, 2), "2k 5p>p/x");
    }

    private static void differIgnores() {
        Counted x = new Counted();
        Check.put(x, 0, "a", false, 1);
        Check.put(x, 0, "out/b", false, 2);
        Check.put(x, 0, "x.o", false, 3);
        Check.edition(x, 0);
        Check.put(x, 1, "out/a", false, 1);
        Check.put(x, 1, "src/x.o", false, 4);
        Check.put(x, 1, "src/b", false, 2);
        Check.put(x, 1, "x.o", false, 5);
        Check.edition(x, 1);
        Check.same("16 before", differ(x, 0, 1), "5a>out/a 5out/b>src/b 0src/x.o 2x.o");
        Check.ignore(x, "*.o");
        Check.same("16 rows stay", Check.rows(x), "5a>out/a 5out/b>src/b 0src/x.o 2x.o");
        Check.same("16 NAMES ignored", differ(x, 0, 1), "5a>out/a 5out/b>src/b");
        Check.ignore(x, "out");
        Check.same("16 no renames with what is ignored", differ(x, 0, 1), "1a 0src/b");
        Check.same("16 in either", differ(x, 1, 0), "0a 1src/b");
        Check.put(x, 2, "out", false, 9);
        Check.edition(x, 2);
        Check.same("16 a file and a folder that are ignored", differ(x, 1, 2), "1src/b");
    }

    /** As many rows as 512 calls can make: 64 NAMES of one character, the others of two. */
    private static void differMany() {
        Counted x = new Counted();
        String letters = "-0123456789ABCDEFGHIJKLMNOPQRSTUVWXYZ_abcdefghijklmnopqrstuvwxyz";
        for (int i = 0; i < 94; i++) {
            Check.put(x, 0, i < 64 ? letters.substring(i, i + 1) : "x" + letters.charAt(i - 64), false);
            Check.put(x, 1, (i < 64 ? "y" : "z") + letters.charAt(i % 64), true);
        }
        Check.edition(x, 0);
        Check.edition(x, 1);
        Check.same("16 many rows", x.differ(0, 1), 188);
        Check.same("18 the last of them", x.row(187), 0);
        Check.same("18 behind it", x.row(188), -1);
        Check.same("19 the last of them", x.path(187, false, 0) * 256 + x.path(187, false, 1), 'z' * 256 + 'S');
    }

    private static void differRenamesMany() {
        Counted x = new Counted();
        String letters = "0123456789abcdefghijklmnopqrstuvwxyzABCD";
        for (int i = 0; i < 40; i++) {
            Check.put(x, 0, "" + letters.charAt(i), false, i);
            Check.put(x, 1, "_" + letters.charAt(i), false, 39 - i);
        }
        Check.edition(x, 0);
        Check.edition(x, 1);
        Check.same("16 forty renames", x.differ(0, 1), 40);
        Check.same("19 0 to _D", x.path(0, true, 1), 'D');
        Check.same("18 behind them", x.row(40), -1);
    }

    private static String clashes(Counted x, int edition) {
        int count = x.clashes(edition);
        Check.same("17 no rows behind the last", x.row(count), -1);
        return Check.rows(x);
    }

    private static void promise17() {
        Counted x = new Counted();
        Check.put(x, 0, "Make", false, 1);
        Check.link(x, 0, "MAKE>Make");
        Check.put(x, 0, "make/Z_", false, 2);
        Check.put(x, 0, "make/z_", false, 3);
        Check.put(x, 0, "make/Sub/x", false, 3);
        Check.folder(x, 0, "make/suB/X");
        Check.put(x, 0, "mak", false);
        Check.put(x, 0, "-a.b", false);
        Check.put(x, 0, "_A.B", false);
        Check.put(x, 0, "other/Make", false);
        Check.edition(x, 0);
        Check.same("17 clashes", clashes(x, 0), "6Make 6make 6make/suB 6make/z_");
        Check.ignore(x, "z*");
        Check.same("17 ignored", clashes(x, 0), "6Make 6make 6make/suB");
        Check.ignore(x, "MA*");
        Check.same("17 nothing clashes with what is ignored", clashes(x, 0), "6make 6make/suB");
        Check.ignore(x, "ma*");
        Check.same("17 what lies in it is ignored", clashes(x, 0), "");
        int[] wrong = {-1, 1, 16, Integer.MIN_VALUE};
        Check.put(x, 1, "q", false);
        Check.put(x, 1, "Q", false);
        Check.edition(x, 1);
        Check.same("17 small behind large", clashes(x, 1), "6q");
        for (int edition : wrong) {
            x.clashes(1);
            Check.same("17 none such", x.clashes(edition == 1 ? 2 : edition), -1);
            Check.same("17 none such, no rows", x.row(0), -1);
        }
    }

    private static void promises18And19() {
        Counted x = new Counted();
        Check.put(x, 0, "a/b/c", false, 1);
        Check.edition(x, 0);
        Check.remove(x, 0, "a");
        Check.put(x, 0, TWELVE + "/x", false, 1);
        Check.edition(x, 0);
        x.differ(0, 1);
        Check.same("18 kind", x.row(0), 5);
        Check.same("18 below", x.row(-1), -1);
        Check.same("18 behind", x.row(1), -1);
        Check.same("18 far behind", x.row(Integer.MAX_VALUE), -1);
        Check.same("19 first", x.path(0, false, 0), 'a');
        Check.same("19 slash", x.path(0, false, 1), '/');
        Check.same("19 last", x.path(0, false, 4), 'c');
        Check.same("19 behind", x.path(0, false, 5), 0);
        Check.same("19 far behind", x.path(0, false, Integer.MAX_VALUE), 0);
        Check.same("19 below", x.path(0, false, -1), 0);
        Check.same("19 far below", x.path(0, true, Integer.MIN_VALUE), 0);
        Check.same("19 second", x.path(0, true, 12), '/');
        Check.same("19 second, last", x.path(0, true, 13), 'x');
        Check.same("19 second, behind", x.path(0, true, 14), 0);
        Check.same("19 no row", x.path(1, false, 0) + x.path(-1, false, 0) + x.path(1, true, 0), 0);
        Check.remove(x, 0, TWELVE);
        x.back(0, 0);
        Check.same("19 rows stay as they are", Check.rows(x), "5a/b/c>" + TWELVE + "/x");
        x.clashes(0);
        Check.same("18 rows of another call", x.row(0), -1);
        Check.edition(x, 3);
        x.differ(0, 2);
        Check.same("19 second of another kind", x.path(0, true, 0), 0);
        Check.same("19 of another kind", x.path(0, false, 4), 'c');
    }

    private static void promise20() {
        Counted x = new Counted();
        Check.put(x, 0, "a/b", false, 1);
        Check.put(x, 0, "a/b", false, 1);
        Check.same("20 the same file again", x.changes(0), 1);
        Check.put(x, 0, "a/b", true, 1);
        Check.put(x, 0, "a/b", true, 2);
        Check.link(x, 0, "l>a");
        Check.link(x, 0, "l>a");
        Check.link(x, 0, "l>b");
        Check.folder(x, 0, "a");
        Check.folder(x, 0, "a/d");
        Check.remove(x, 0, "a/d");
        Check.remove(x, 0, "a/d");
        Check.put(x, 0, "a", false);
        Check.look(x, 0, "a");
        Check.edition(x, 0);
        Check.same("20 in turn", Check.changes(x, 0), "a/b a/b a/b l l a/d a/d");
        Check.same("20 how many", x.changes(0), 7);
        Check.same("20 another tree", x.changes(1), 0);
        Check.same("20 back to what it is", x.back(0, 0) ? x.changes(0) : 0, 7);
        for (int i = 8; i <= 12; i++) {
            Check.put(x, 0, "f", false, i);
        }
        Check.same("20 twelve", x.changes(0), 12);
        Check.put(x, 0, "f", false, 12);
        Check.same("20 twelve, and no change", x.changes(0), 12);
        Check.put(x, 0, "f", false, 13);
        Check.same("20 thirteen", x.changes(0), -2);
        Check.same("20 a back", x.back(1, 0) ? x.changes(1) : 0, -2);
        Check.put(x, 1, "f", false, 1);
        Check.same("20 behind a back", x.changes(1), -2);
        Check.edition(x, 0);
        x.back(0, 0);
        x.back(0, 1);
        Check.same("20 back and forth", x.changes(0), -2);
        for (int tree : WRONG_TREES) {
            Check.same("20 no tree " + tree, x.changes(tree), -1);
        }
    }

    /** A tree that was made anew is no other one, as long as all in it is the same. */
    private static void backToTheSame() {
        Counted x = new Counted();
        for (int tree = 0; tree < 3; tree++) {
            Check.folder(x, tree, EIGHT);
            Check.put(x, tree, "f", true, 1, 2);
            Check.link(x, tree, "l>f");
            Check.edition(x, tree);
        }
        Check.same("20 back to the same", x.back(1, 0) ? x.changes(1) : 0, 3);
        Check.put(x, 2, "f", true, 1, 3);
        Check.same("20 back from other BYTES", x.back(2, 0) ? x.changes(2) : 0, -2);
        x.seen(2);
        Check.link(x, 2, "l>l");
        x.seen(2);
        Check.same("20 back from another TARGET", x.back(2, 0) ? x.changes(2) : 0, -2);
        Check.remove(x, 2, EIGHT);
        x.seen(2);
        Check.same("20 back from a folder less", x.back(2, 0) ? x.changes(2) : 0, -2);
        x.seen(2);
        Check.same("20 back twice", x.back(2, 1) ? x.changes(2) : -1, 0);
    }

    private static void promise21() {
        Counted x = new Counted();
        Check.put(x, 0, "a/b", false, 1);
        Check.link(x, 0, "l>b");
        Check.same("21 first", x.change(0, 0, 0), 'a');
        Check.same("21 slash", x.change(0, 0, 1), '/');
        Check.same("21 last", x.change(0, 0, 2), 'b');
        Check.same("21 behind", x.change(0, 0, 3), 0);
        Check.same("21 below", x.change(0, 0, -1), 0);
        Check.same("21 far behind", x.change(0, 0, Integer.MAX_VALUE), 0);
        Check.same("21 a link's PATH alone", x.change(0, 1, 1), 0);
        Check.same("21 no change", x.change(0, 2, 0) + x.change(0, -1, 0) + x.change(0, Integer.MAX_VALUE, 0), 0);
        for (int tree : WRONG_TREES) {
            Check.same("21 no tree " + tree, x.change(tree, 0, 0), 0);
        }
        for (int i = 0; i < 10; i++) {
            Check.put(x, 0, "n" + i, false);
        }
        Check.same("21 the twelfth", x.change(0, 11, 1), '9');
        Check.put(x, 0, "o", false);
        Check.same("21 ALL", x.change(0, 0, 0) + x.change(0, 11, 0) + x.change(0, 12, 0), 0);
        Check.put(x, 1, "p", false);
        Check.edition(x, 2);
        x.back(1, 0);
        Check.same("21 ALL by a back", x.change(1, 0, 0), 0);
    }

    private static void promise22() {
        Counted x = new Counted();
        Check.put(x, 0, "a", false);
        Check.put(x, 1, "b", false);
        Check.edition(x, 1);
        Check.same("22 seen", x.seen(0), true);
        Check.same("22 none left", x.changes(0), 0);
        Check.same("22 no characters left", x.change(0, 0, 0), 0);
        Check.same("22 other trees", x.changes(1), 1);
        x.back(0, 0);
        Check.same("22 ALL", x.changes(0), -2);
        Check.same("22 seen ALL", x.seen(0), true);
        Check.same("22 none left of ALL", x.changes(0), 0);
        Check.put(x, 0, "c/d", false);
        Check.same("22 watched anew", Check.changes(x, 0), "c/d");
        for (int i = 0; i < 13; i++) {
            Check.put(x, 3, "f", false, i);
        }
        Check.same("22 seen more than 12", x.seen(3) ? x.changes(3) : -1, 0);
        Check.same("22 seen twice", x.seen(3), true);
        for (int tree : WRONG_TREES) {
            Check.same("22 no tree " + tree, x.seen(tree), false);
        }
    }

    /** TEXT and BYTES are empty behind each call that takes them, whether it is refused or not. */
    private static void emptying() {
        Counted x = new Counted();
        Check.put(x, 0, "d/e", false);
        Check.octets(x, 1);
        Check.link(x, 0, "l>d");
        emptied(x, "link");
        Check.octets(x, 1);
        Check.link(x, 0, "?");
        emptied(x, "link refused");
        Check.octets(x, 1);
        Check.folder(x, 0, "f");
        emptied(x, "folder");
        Check.octets(x, 1);
        Check.folder(x, 0, "l");
        emptied(x, "folder refused");
        Check.octets(x, 1);
        Check.remove(x, 0, "f");
        emptied(x, "remove");
        Check.octets(x, 1);
        Check.remove(x, 0, "f");
        emptied(x, "remove refused");
        Check.octets(x, 1);
        Check.look(x, 0, "d");
        emptied(x, "look");
        Check.octets(x, 1);
        Check.look(x, 9, "d");
        emptied(x, "look refused");
        Check.octets(x, 1);
        Check.ignore(x, "q");
        emptied(x, "ignore");
        Check.octets(x, 1);
        Check.ignore(x, "/");
        emptied(x, "ignore refused");
        Check.put(x, 0, "d", false, 1);
        emptied(x, "put refused");
        Check.put(x, 9, "d", false, 1);
        emptied(x, "put refused by its tree");
        Check.type(x, "k");
        Check.octets(x, 6);
        keeping(x);
        Check.same("others take nothing", Check.put(x, 0, "", false), 1);
        Check.same("others take no TEXT", Check.look(x, 0, "k"), 2);
        Check.same("others take no BYTES", x.byteAt(0), 6);
    }

    private static void emptied(Counted x, String call) {
        Check.put(x, 0, "e", false, 7);
        Check.same("empty behind " + call, Check.look(x, 0, "e"), 2);
        Check.same("empty behind " + call, Check.bytes(x), "7 ");
    }

    private static void keeping(Counted x) {
        Check.edition(x, 0);
        x.back(0, 0);
        x.differ(0, 0);
        x.clashes(0);
        x.nodes(0);
        x.digest(0);
        x.seen(0);
        x.changes(0);
        x.size();
        Check.edition(x, 7);
    }
}
