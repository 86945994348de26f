/** Promises 1 to 22: each of their words that names a bound, at the last input it allows and the first it does not. */
final class PromiseEdgeTest {
    private static final int ARGUMENT = Check.REFUSED_ARGUMENT;
    private static final int STATE = Check.REFUSED_STATE;
    private static final int LEAST = Integer.MIN_VALUE;
    private static final int MOST = Integer.MAX_VALUE;
    private static final int[] NO_TREES = {-1, 4, -2, 5, -4, LEAST, MOST, LEAST + 3, MOST - 3};
    private static final String EIGHT = "a/b/c/d/e/f/g/h";

    private PromiseEdgeTest() {
    }

    public static void main(String[] args) {
        newObject();
        newObjectTakes();
        typeAppends();
        octetAppends();
        putCountsNewNodes();
        putInPlace();
        putOnTheWay();
        linkTexts();
        linkTheSame();
        folderThatIsThere();
        folderOnTheWay();
        removeCounts();
        removeFollowsNoLinks();
        lookComesTo();
        noSuchTree();
        sizeOfNone();
        sizeOfTheLast();
        byteAtEdges();
        editionNumbers();
        backFalse();
        backIsATree();
        digestOfNone();
        nodesOfNone();
        nodesIgnored();
        ignoreAtFour();
        differOfNone();
        differOfEmpty();
        differKinds();
        differIgnored();
        clashesOfNone();
        clashesByCase();
        clashesIgnored();
        rowEdges();
        pathEdges();
        pathOfTheOther();
        changesUpTo12();
        changesThatAreNone();
        changesByBack();
        changeEdges();
        changeOfAll();
        seenEdges();
        Check.finish("PromiseEdgeTest");
    }

    private static void newObject() {
        Counted x = new Counted();
        for (int i : new int[] {-1, 0, 1, 15, 16, LEAST, MOST}) {
            Check.same("1 no editions: digest " + i, x.digest(i), 0);
            Check.same("1 no editions: nodes " + i, x.nodes(i), -1);
            Check.same("1 no editions: back " + i, x.back(0, i), false);
            Check.same("1 no editions: differ " + i, x.differ(i, i), -1);
            Check.same("1 no editions: clashes " + i, x.clashes(i), -1);
            Check.same("1 nothing collected: row " + i, x.row(i), -1);
            Check.same("1 nothing collected: path " + i, x.path(i, false, 0), 0);
            Check.same("1 nothing collected: other path " + i, x.path(i, true, 0), 0);
            Check.same("1 nothing collected: byteAt " + i, x.byteAt(i), -1);
            Check.same("1 nothing collected: change " + i, x.change(0, i, 0), 0);
        }
        Check.same("1 nothing collected: size", x.size(), -1);
        for (int tree = 0; tree < 4; tree++) {
            Check.same("1 empty trees: changes", x.changes(tree), 0);
            Check.same("1 empty trees: seen", x.seen(tree), true);
        }
        Check.same("1 nothing collected: room", Twins.room(x), "120 and 40");
        Check.same("1 NONE", SourceTree.NONE, -1);
    }

    /** With no TEXT at all. */
    private static void newObjectTakes() {
        for (int tree = 0; tree < 4; tree++) {
            Counted x = new Counted();
            Check.same("1 nothing collected: put", Check.put(x, tree, "", false), ARGUMENT);
            Check.same("1 nothing collected: link", Check.link(x, tree, ""), ARGUMENT);
            Check.same("1 nothing collected: folder", Check.folder(x, tree, ""), ARGUMENT);
            Check.same("1 nothing collected: remove", Check.remove(x, tree, ""), ARGUMENT);
            Check.same("1 nothing collected: look", Check.look(x, tree, ""), ARGUMENT);
            Check.same("1 nothing collected: ignore", Check.ignore(x, ""), ARGUMENT);
            Check.same("1 empty trees: edition", Check.edition(x, tree), 0);
            Check.same("1 empty trees: nodes", x.nodes(0), 0);
            Check.same("1 empty trees: differ", x.differ(0, 0), 0);
            Check.same("1 empty trees: clashes", x.clashes(0), 0);
        }
        Counted other = new Counted();
        Check.put(other, 0, "a", false);
        Check.edition(other, 0);
        Counted x = new Counted();
        Check.same("1 each object is its own", Check.look(x, 0, "a") + x.nodes(0), -1);
    }

    private static void typeAppends() {
        Counted x = new Counted();
        Check.same("2 a refused character is not there: 31", x.type((char) 31), false);
        Check.same("2 appends", x.type('a'), true);
        Check.same("2 a refused character is not there: 127", x.type((char) 127), false);
        Check.same("2 appends behind it", x.type('b'), true);
        Check.same("2 a refused character is not there: 65535", x.type((char) 65535), false);
        Check.same("2 a character's low byte alone is not it", x.type((char) (256 + 'c')), false);
        Check.same("2 the two that were taken", Check.put(x, 0, "", false), 1);
        Check.same("2 in turn", Check.changes(x, 0), "ab");
        Check.same("2 code 32 is taken", x.type((char) 32), true);
        Check.same("2 but in no NAME", Check.put(x, 0, "a", false), ARGUMENT);
        Check.same("2 code 126 is taken", x.type((char) 126), true);
        Check.same("2 but in no NAME either", Check.put(x, 0, "a", false), ARGUMENT);
    }

    private static void octetAppends() {
        Counted x = new Counted();
        int[] numbers = {-1, 0, 256, 255, LEAST, 1, MOST, 254};
        for (int b : numbers) {
            Check.same("3 false if it isn't 0 .. 255: " + b, x.octet(b), b >= 0 && b <= 255);
        }
        Check.put(x, 0, "a", false);
        Check.look(x, 0, "a");
        Check.same("3 the four that were taken, in turn", Check.bytes(x), "0 255 1 254 ");
        for (int i = 0; i < 40; i++) {
            x.octet(i);
        }
        for (int b : numbers) {
            Check.same("3 false if 40 are there: " + b, x.octet(b), false);
        }
        Check.put(x, 0, "b", false);
        Check.look(x, 0, "b");
        Check.same("3 the first one of 40", x.byteAt(0), 0);
        Check.same("3 the last one of 40", x.byteAt(39), 39);
    }

    private static void putCountsNewNodes() {
        for (int names = 1; names <= 8; names++) {
            String path = EIGHT.substring(0, 2 * names - 1);
            for (int there = 0; there < names; there++) {
                Counted x = new Counted();
                if (there > 0) {
                    Check.folder(x, 1, EIGHT.substring(0, 2 * there - 1));
                }
                Check.same("4 how many nodes are new", Check.put(x, 1, path, false), names - there);
                Check.same("4 the file is there", Check.look(x, 1, path), 2);
                Check.same("4 all that is there", x.nodes(Check.edition(x, 1)), names);
            }
        }
    }

    private static void putInPlace() {
        Counted x = new Counted();
        Check.put(x, 0, "f", true, 1, 2, 3);
        Check.same("4 in place of a file", Check.put(x, 0, "f", false), 0);
        Check.same("4 no mark any more", Check.look(x, 0, "f"), 2);
        Check.same("4 no BYTES any more", x.size(), 0);
        Check.same("4 in place of a file with none", Check.put(x, 0, "f", true, 0), 0);
        Check.same("4 the mark", Check.look(x, 0, "f"), 3);
        Check.same("4 the BYTES", Check.bytes(x), "0 ");
        Check.link(x, 0, "l>l");
        Check.same("4 in place of a link", Check.put(x, 0, "l", false, 4), 0);
        Check.same("4 no link any more", Check.look(x, 0, "l"), 2);
        Check.folder(x, 0, "d");
        Check.link(x, 0, "d/m>d");
        Check.same("4 in place of a link to a folder", Check.put(x, 0, "d/m", false), 0);
        Check.same("4 the folder is still there", Check.look(x, 0, "d"), 1);
        Check.same("4 as many as before", x.nodes(Check.edition(x, 0)), 4);
    }

    private static void putOnTheWay() {
        Counted x = new Counted();
        Check.put(x, 0, "d/f", false);
        Check.link(x, 0, "d/l>d");
        Check.same("4 a file is on the way, at first", Check.put(x, 0, "d/f/a", false), STATE);
        Check.same("4 a file is on the way, far up", Check.put(x, 0, "d/f/a/b/c/d/e/f", false), STATE);
        Check.same("4 a link is on the way", Check.put(x, 0, "d/l/a", false), STATE);
        Check.same("4 a link is on the way to a file", Check.put(x, 0, "d/l/f", false), STATE);
        Check.same("4 a folder is there", Check.put(x, 0, "d", false), STATE);
        Check.same("4 an empty folder is there", Check.folder(x, 0, "e") + Check.put(x, 0, "e", false), 1 + STATE);
        Check.same("4 no tree and no PATH", Check.put(x, 4, "/", false), ARGUMENT);
        Check.same("4 no tree where a folder is there", Check.put(x, -1, "d", false), ARGUMENT);
        Check.same("4 no PATH where a file is on the way", Check.put(x, 0, "d/f/..", false), ARGUMENT);
    }

    private static void linkTexts() {
        String[] wrong = {"", ">", ">>", "a", "a>", ">b", "a>>b", "a>b>", ">a>b", "a>b>c", "a >b", "a> b", "a->", "a=b",
            EIGHT + "/i>a", "a>" + EIGHT + "/i", "abcdefghijklm>a", "a>abcdefghijklm", "a/>b", "a>b/", "a>/b", "a>.",
            "..>b"};
        for (String text : wrong) {
            Check.same("5 TEXT is a PATH, > , and the TARGET: " + text, Check.link(new Counted(), 0, text), ARGUMENT);
        }
        Check.same("5 shortest", Check.link(new Counted(), 0, "a>b"), 1);
        Check.same("5 most NAMES", Check.link(new Counted(), 3, EIGHT + ">" + EIGHT), 8);
        Check.same("5 longest NAMES", Check.link(new Counted(), 0, "abcdefghijkl>abcdefghijkl"), 1);
        Check.same("5 the TARGET need not be there", Check.link(new Counted(), 0, "a/b>c"), 2);
        Check.same("5 no tree and no PATH", Check.link(new Counted(), 4, "a"), ARGUMENT);
    }

    private static void linkTheSame() {
        Counted x = new Counted();
        Check.put(x, 0, "d/f", false, 1);
        Check.same("5 how many nodes are new", Check.link(x, 0, "e/g/l>d"), 3);
        Check.same("5 in place of a file", Check.link(x, 0, "d/f>e"), 0);
        Check.same("5 in place of a link", Check.link(x, 0, "d/f>e/g"), 0);
        Check.same("5 no file any more", Check.look(x, 0, "d/f"), 1);
        Check.same("5 a link is on the way", Check.link(x, 0, "e/g/l/x>d"), STATE);
        Check.same("5 a folder is there", Check.link(x, 0, "e/g>d"), STATE);
        Check.put(x, 0, "p", false);
        Check.same("5 a file is on the way", Check.link(x, 0, "p/x>d"), STATE);
        Check.same("5 to itself", Check.link(x, 0, "p>p"), 0);
        Check.same("5 BYTES are no part of it", linkDigest(true), linkDigest(false));
    }

    private static long linkDigest(boolean withBytes) {
        Counted x = new Counted();
        Check.octets(x, withBytes ? new int[] {1, 2, 3} : new int[0]);
        Check.link(x, 0, "a>b");
        Check.edition(x, 0);
        return x.digest(0);
    }

    private static void folderThatIsThere() {
        for (int names = 1; names <= 8; names++) {
            Counted x = new Counted();
            String path = EIGHT.substring(0, 2 * names - 1);
            Check.same("6 how many nodes are new", Check.folder(x, 2, path), names);
            Check.same("6 also one that is there already: 0", Check.folder(x, 2, path), 0);
            Check.same("6 those on the way are there too", Check.folder(x, 2, "a"), 0);
            Check.same("6 once watched", x.changes(2), 1);
            Check.same("6 it comes to a folder", Check.look(x, 2, path), 1);
            Check.same("6 nothing went", x.nodes(Check.edition(x, 2)), names);
        }
        Counted x = new Counted();
        Check.put(x, 0, "d/f", false);
        Check.same("6 there already with a file in it", Check.folder(x, 0, "d"), 0);
        Check.same("6 the file stays", Check.look(x, 0, "d/f"), 2);
    }

    private static void folderOnTheWay() {
        Counted x = new Counted();
        Check.put(x, 0, "d/f", false);
        Check.link(x, 0, "l>d");
        Check.same("6 a file at the PATH is on the way, too", Check.folder(x, 0, "d/f"), STATE);
        Check.same("6 a link at the PATH is on the way, too", Check.folder(x, 0, "l"), STATE);
        Check.same("6 a file is on the way", Check.folder(x, 0, "d/f/g"), STATE);
        Check.same("6 a link is on the way", Check.folder(x, 0, "l/g"), STATE);
        Check.same("6 beside them", Check.folder(x, 0, "d/g"), 1);
        Check.same("6 no tree and no PATH", Check.folder(x, 4, "a/"), ARGUMENT);
    }

    private static void removeCounts() {
        for (int names = 1; names <= 8; names++) {
            Counted x = new Counted();
            Check.folder(x, 0, EIGHT);
            Check.same("7 how many nodes", Check.remove(x, 0, EIGHT.substring(0, 2 * names - 1)), 9 - names);
            Check.same("7 those before it stay", x.nodes(Check.edition(x, 0)), names - 1);
            Check.same("7 there is nothing", Check.remove(x, 0, EIGHT.substring(0, 2 * names - 1)), STATE);
            Check.same("7 nor behind it", Check.remove(x, 0, EIGHT), STATE);
        }
        Counted x = new Counted();
        for (char c = 'a'; c <= 'z'; c++) {
            Check.put(x, 0, "A/" + c, false);
        }
        for (char c = '0'; c <= '9'; c++) {
            Check.folder(x, 0, "A/" + c);
        }
        Check.link(x, 0, "A/A>A");
        Check.same("7 with all in it", Check.remove(x, 0, "A"), 38);
        Check.same("7 the tree is empty", x.nodes(Check.edition(x, 0)), 0);
        Counted full = new Counted();
        Check.fill(full, 0, 100);
        Check.same("7 eight of 100", Check.remove(full, 0, "A"), 8);
        Check.same("7 the other 92", full.nodes(Check.edition(full, 0)), 92);
    }

    private static void removeFollowsNoLinks() {
        Counted x = new Counted();
        Check.put(x, 0, "d/f", false);
        Check.link(x, 0, "l>d");
        Check.link(x, 0, "r>r");
        Check.link(x, 0, "n>x");
        Check.same("7 links on the way aren't followed", Check.remove(x, 0, "l/f"), STATE);
        Check.same("7 nor one that goes round", Check.remove(x, 0, "r/f"), STATE);
        Check.same("7 a file on the way", Check.remove(x, 0, "d/f/f"), STATE);
        Check.same("7 a link goes itself", Check.remove(x, 0, "l"), 1);
        Check.same("7 and one that goes round", Check.remove(x, 0, "r"), 1);
        Check.same("7 and one to nothing", Check.remove(x, 0, "n"), 1);
        Check.same("7 what they led to stays", Check.look(x, 0, "d/f"), 2);
        Check.same("7 no tree and nothing", Check.remove(x, 4, "q"), ARGUMENT);
        Check.same("7 case matters", Check.remove(x, 0, "D"), STATE);
    }

    private static void lookComesTo() {
        Counted x = new Counted();
        Check.put(x, 0, "f", false, 1);
        Check.put(x, 0, "x", true, 2);
        Check.folder(x, 0, "d");
        Check.link(x, 0, "r>r");
        Check.link(x, 0, "lf>f");
        Check.link(x, 0, "lx>x");
        Check.link(x, 0, "ld>d");
        Check.same("8 0 NOTHING", Check.look(x, 0, "q"), 0);
        Check.same("8 1 a folder", Check.look(x, 0, "d"), 1);
        Check.same("8 2 a file", Check.look(x, 0, "f"), 2);
        Check.same("8 3 an executable one", Check.look(x, 0, "x"), 3);
        Check.same("8 4 it goes ROUND", Check.look(x, 0, "r"), 4);
        Check.same("8 1 by a link", Check.look(x, 0, "ld"), 1);
        Check.same("8 2 by a link", Check.look(x, 0, "lf") + 10 * x.byteAt(0), 12);
        Check.same("8 3 by a link", Check.look(x, 0, "lx") + 10 * x.byteAt(0), 23);
        Check.same("8 nothing is changed", x.changes(0), 7);
        Check.same("8 no tree and no PATH", Check.look(x, 4, ""), ARGUMENT);
    }

    private static void noSuchTree() {
        for (int tree : NO_TREES) {
            Counted x = new Counted();
            Check.same("4 there is no such tree " + tree, Check.put(x, tree, "a", false), ARGUMENT);
            Check.same("5 there is no such tree " + tree, Check.link(x, tree, "a>b"), ARGUMENT);
            Check.same("6 there is no such tree " + tree, Check.folder(x, tree, "a"), ARGUMENT);
            Check.same("7 there is no such tree " + tree, Check.remove(x, tree, "a"), ARGUMENT);
            Check.same("8 there is no such tree " + tree, Check.look(x, tree, "a"), ARGUMENT);
            Check.same("11 there is no such tree " + tree, Check.edition(x, tree), ARGUMENT);
            Check.edition(x, 0);
            Check.same("12 there is no such tree " + tree, x.back(tree, 0), false);
            Check.same("20 there is no such tree " + tree, x.changes(tree), -1);
            Check.same("21 there is no such tree " + tree, x.change(tree, 0, 0), 0);
            Check.same("22 there is no such tree " + tree, x.seen(tree), false);
        }
        for (int tree = 0; tree < 4; tree++) {
            Counted x = new Counted();
            Check.same("4 there is tree " + tree, Check.put(x, tree, "a", false), 1);
            Check.same("5 there is tree " + tree, Check.link(x, tree, "b>a"), 1);
            Check.same("6 there is tree " + tree, Check.folder(x, tree, "c"), 1);
            Check.same("7 there is tree " + tree, Check.remove(x, tree, "c"), 1);
            Check.same("8 there is tree " + tree, Check.look(x, tree, "b"), 2);
            Check.same("11 there is tree " + tree, Check.edition(x, tree), 0);
            Check.same("12 there is tree " + tree, x.back(tree, 0), true);
            Check.same("20 there is tree " + tree, x.changes(tree), 4);
            Check.same("21 there is tree " + tree, x.change(tree, 3, 0), 'c');
            Check.same("22 there is tree " + tree, x.seen(tree), true);
        }
    }

    private static void sizeOfNone() {
        Counted x = new Counted();
        Check.put(x, 0, "f", false, 1);
        Check.link(x, 0, "r>r");
        Check.folder(x, 0, "d");
        Check.same("9 NONE if none was: a put is no look", x.size(), -1);
        for (String path : new String[] {"q", "d", "r", "f/x", "", "f/"}) {
            Check.look(x, 0, path);
            Check.same("9 NONE if none was: " + path, x.size(), -1);
            Check.same("10 NONE if there is none: " + path, x.byteAt(0), -1);
        }
        Check.look(x, 4, "f");
        Check.same("9 NONE if none was: in no tree", x.size(), -1);
        Check.octets(x, 1, 2);
        Check.same("9 NONE if none was: BYTES are no file", x.size(), -1);
    }

    private static void sizeOfTheLast() {
        Counted x = new Counted();
        Check.put(x, 0, "e", false);
        Check.put(x, 0, "f", true, 9);
        Check.link(x, 0, "r>r");
        Check.edition(x, 1);
        Check.look(x, 0, "f");
        Check.same("9 one", x.size(), 1);
        for (String path : new String[] {"q", "r", "f/x", "", "f/"}) {
            Check.look(x, 0, path);
            Check.same("9 the file that was looked at last, behind " + path, x.size(), 1);
        }
        Check.put(x, 0, "f", false, 8, 7);
        Check.same("9 the file that was looked at, not the new one", Check.bytes(x), "9 ");
        Check.remove(x, 0, "f");
        Check.same("9 the file that was looked at, though it went", Check.bytes(x), "9 ");
        x.back(0, 0);
        Check.same("9 the file that was looked at, behind a back", x.size(), 1);
        Check.put(x, 0, "e", false);
        Check.look(x, 0, "e");
        Check.same("9 0 of an empty one", x.size(), 0);
    }

    private static void byteAtEdges() {
        for (int size : new int[] {0, 1, 2, 39, 40}) {
            Counted x = new Counted();
            for (int i = 0; i < size; i++) {
                x.octet(200 + i);
            }
            Check.put(x, 0, "f", false);
            Check.look(x, 0, "f");
            for (int k : new int[] {-1, size, size + 1, 40, 41, LEAST, MOST, -size}) {
                int due = k >= 0 && k < size ? 200 + k : -1;
                Check.same("10 NONE if there is none: " + k + " of " + size, x.byteAt(k), due);
            }
            for (int k = 0; k < size; k++) {
                Check.same("10 one of them: " + k + " of " + size, x.byteAt(k), 200 + k);
            }
            Check.same("10 they stay", x.size(), size);
        }
    }

    private static void editionNumbers() {
        Counted x = new Counted();
        Check.same("11 no such tree takes no number", Check.edition(x, 4), ARGUMENT);
        for (int i = 0; i < 15; i++) {
            Check.same("11 its number", Check.edition(x, i % 4), i);
        }
        Check.same("11 no such tree at 15", Check.edition(x, -1), ARGUMENT);
        Check.same("11 there are 15", Check.edition(x, 3), 15);
        for (int tree = 0; tree < 4; tree++) {
            Check.same("11 there are 16", Check.edition(x, tree), STATE);
        }
        Check.same("11 there are 16, and no such tree", Check.edition(x, 4), ARGUMENT);
        Check.same("11 nothing is watched", x.changes(0), 0);
        Counted one = new Counted();
        Check.put(one, 0, "a", false);
        Check.edition(one, 0);
        Check.put(one, 0, "b", false);
        Check.same("11 a tree as it is", one.nodes(0), 1);
        Check.same("11 the tree goes on", Check.look(one, 0, "b"), 2);
    }

    /** The numbers around 0, the number of editions, and 16. */
    private static int[] around(int editions) {
        return new int[] {-1, 0, editions - 1, editions, editions + 1, 15, 16, 17, LEAST, MOST};
    }

    private static Counted withEditions(int count) {
        Counted x = new Counted();
        for (int i = 0; i < count; i++) {
            Check.put(x, 0, "" + (char) ('a' + i), false);
            Check.edition(x, 0);
        }
        return x;
    }

    private static boolean isEdition(int edition, int count) {
        return edition >= 0 && edition < count;
    }

    private static void backFalse() {
        for (int count : new int[] {0, 1, 2, 15, 16}) {
            Counted x = withEditions(count);
            for (int edition : around(count)) {
                boolean due = isEdition(edition, count);
                Check.same("12 false if there is none such: " + edition + " of " + count, x.back(3, edition), due);
                Check.same("12 no tree, " + edition + " of " + count, x.back(4, edition), false);
                Check.same("12 no tree below, " + edition + " of " + count, x.back(-1, edition), false);
            }
        }
    }

    private static void backIsATree() {
        Counted x = new Counted();
        Check.put(x, 0, "a/b", false, 1);
        Check.edition(x, 0);
        for (int tree = 0; tree < 4; tree++) {
            Check.same("12 becomes as it was", x.back(tree, 0), true);
            Check.same("12 the file is there", Check.look(x, tree, "a/b"), 2);
            Check.same("12 how many go", Check.remove(x, tree, "a"), 2);
        }
        Check.same("12 the edition stays", x.nodes(0), 2);
        Check.same("12 and again", x.back(0, 0), true);
        Check.same("12 the file is there again", Check.look(x, 0, "a/b"), 2);
        Check.edition(x, 1);
        Check.same("12 to an empty one", x.back(0, 1), true);
        Check.same("12 nothing is there", Check.look(x, 0, "a"), 0);
    }

    private static void digestOfNone() {
        for (int count : new int[] {0, 1, 2, 15, 16}) {
            Counted x = withEditions(count);
            for (int edition : around(count)) {
                boolean due = isEdition(edition, count);
                Check.same("13 0 if there is none such: " + edition + " of " + count, x.digest(edition) != 0, due);
            }
        }
    }

    private static void nodesOfNone() {
        for (int count : new int[] {0, 1, 2, 15, 16}) {
            Counted x = withEditions(count);
            for (int edition : around(count)) {
                int due = isEdition(edition, count) ? edition + 1 : -1;
                Check.same("14 NONE if there is none such: " + edition + " of " + count, x.nodes(edition), due);
            }
        }
    }

    private static void nodesIgnored() {
        Counted x = new Counted();
        Check.edition(x, 0);
        Check.fill(x, 0, 100);
        Check.edition(x, 0);
        Check.same("14 none", x.nodes(0), 0);
        Check.same("14 a hundred", x.nodes(1), 100);
        Check.ignore(x, "h");
        Check.same("14 those that aren't IGNORED", x.nodes(1), 88);
        Check.ignore(x, "b");
        Check.same("14 nor in what is IGNORED", x.nodes(1), 13);
        Check.ignore(x, "A");
        Check.same("14 one of them", x.nodes(1), 12);
        Check.ignore(x, "*");
        Check.same("14 all are IGNORED", x.nodes(1), 0);
        Check.same("14 none, and all are IGNORED", x.nodes(0), 0);
        Check.same("14 none such, and all are IGNORED", x.nodes(2), -1);
    }

    private static void ignoreAtFour() {
        Counted x = new Counted();
        Check.same("15 it is none at 0", Check.ignore(x, ""), ARGUMENT);
        for (int i = 0; i < 4; i++) {
            Check.same("15 one more PATTERN", Check.ignore(x, "p" + i), 0);
            Check.same("15 it is none", Check.ignore(x, "p/"), ARGUMENT);
        }
        Check.same("15 there are 4", Check.ignore(x, "q"), STATE);
        Check.same("15 there are 4 with this one", Check.ignore(x, "p0"), STATE);
        Check.same("15 it is none, and there are 4", Check.ignore(x, ""), ARGUMENT);
        for (String name : new String[] {"p0", "p1", "p2", "p3", "p", "q"}) {
            Check.put(x, 0, name, false);
        }
        Check.edition(x, 0);
        Check.same("15 the four that were taken", x.nodes(0), 2);
    }

    private static void differOfNone() {
        for (int count : new int[] {1, 2, 16}) {
            Counted x = withEditions(count);
            Check.same("16 with itself", x.differ(count - 1, count - 1), 0);
            for (int edition : around(count)) {
                boolean due = isEdition(edition, count);
                String what = edition + " of " + count;
                x.differ(0, count - 1);
                Check.same("16 the second one: " + what, x.differ(0, edition), due ? edition : -1);
                Check.same("16 no rows: " + what, x.row(0), due && edition > 0 ? 0 : -1);
                x.differ(0, count - 1);
                Check.same("16 the first one: " + what, x.differ(edition, 0), due ? edition : -1);
                Check.same("16 no rows then: " + what, x.row(0), due && edition > 0 ? 1 : -1);
                Check.same("16 no path then: " + what, x.path(0, false, 0), due && edition > 0 ? 'b' : 0);
                Check.same("16 both: " + what, x.differ(edition, edition), due ? 0 : -1);
            }
        }
    }

    private static String differ(Counted x, int first, int second) {
        int count = x.differ(first, second);
        Check.same("16 no row behind the last", x.row(count), -1);
        Check.same("16 no path behind the last", x.path(count, false, 0), 0);
        return Check.rows(x);
    }

    private static void differOfEmpty() {
        Counted x = new Counted();
        Check.edition(x, 0);
        Check.edition(x, 1);
        Check.same("16 two empty ones", x.differ(0, 1), 0);
        Check.folder(x, 0, EIGHT);
        Check.edition(x, 0);
        Check.same("16 folders are no rows", x.differ(0, 2) + x.differ(2, 0), 0);
        Check.put(x, 0, "a/f", false);
        Check.edition(x, 0);
        Check.same("16 all are ADDED", differ(x, 0, 3), "0a/f");
        Check.same("16 all are REMOVED", differ(x, 3, 0), "1a/f");
        x.back(2, 3);
        Check.edition(x, 2);
        Check.same("16 the same parts", x.differ(3, 4), 0);
    }

    private static void differKinds() {
        Counted x = new Counted();
        Check.put(x, 0, "a", false);
        Check.put(x, 0, "b", false, 1, 2);
        Check.put(x, 0, "c", false, 1);
        Check.put(x, 0, "d", true, 1);
        Check.put(x, 0, "e", true);
        Check.link(x, 0, "f>a");
        Check.put(x, 0, "g", false, 1);
        Check.link(x, 0, "h>a/b");
        Check.edition(x, 0);
        Check.put(x, 1, "a", false, 0);
        Check.put(x, 1, "b", false, 1);
        Check.put(x, 1, "c", true, 1);
        Check.put(x, 1, "d", false, 2);
        Check.put(x, 1, "e", false);
        Check.link(x, 1, "f>A");
        Check.link(x, 1, "g>g");
        Check.put(x, 1, "h", false, 1);
        Check.edition(x, 1);
        Check.same("16 2 CONTENT, 3 MARK, 4 KIND", differ(x, 0, 1), "2a 2b 3c 2d 3e 4f 4g 4h");
        Check.same("16 2 CONTENT, 3 MARK, 4 KIND, back", differ(x, 1, 0), "2a 2b 3c 2d 3e 4f 4g 4h");
        Check.link(x, 1, "f>a");
        Check.put(x, 1, "a", false);
        Check.edition(x, 1);
        Check.same("16 the same again are no rows", differ(x, 0, 2), "2b 3c 2d 3e 4g 4h");
    }

    private static void differIgnored() {
        Counted x = new Counted();
        Check.put(x, 0, "a", false, 1);
        Check.put(x, 0, "o/b", false, 2);
        Check.put(x, 0, "c/o/d", false, 3);
        Check.edition(x, 0);
        Check.put(x, 1, "o", false, 1);
        Check.put(x, 1, "e", false, 2);
        Check.edition(x, 1);
        Check.same("16 before", differ(x, 0, 1), "5a>o 1c/o/d 5o/b>e");
        Check.ignore(x, "o");
        Check.same("16 but for what is IGNORED", differ(x, 0, 1), "1a 0e");
        Check.same("16 but for what is IGNORED in the first", differ(x, 1, 0), "0a 1e");
        Check.ignore(x, "*");
        Check.same("16 all is IGNORED", x.differ(0, 1), 0);
        Check.same("16 none such, and all is IGNORED", x.differ(0, 2), -1);
    }

    private static void clashesOfNone() {
        for (int count : new int[] {1, 2, 16}) {
            Counted x = withEditions(count);
            Check.put(x, 0, "A", false);
            for (int edition : around(count)) {
                boolean due = isEdition(edition, count);
                String what = edition + " of " + count;
                x.differ(0, count - 1);
                Check.same("17 NONE if there is none such: " + what, x.clashes(edition), due ? 0 : -1);
                Check.same("17 (and no rows): " + what, x.row(0), -1);
            }
        }
        Counted x = new Counted();
        Check.put(x, 0, "a", false);
        Check.put(x, 0, "A", false);
        Check.edition(x, 0);
        x.clashes(0);
        Check.same("17 a row", x.row(0), 6);
        x.clashes(1);
        Check.same("17 (and no rows)", x.row(0), -1);
        x.clashes(0);
        x.differ(0, 1);
        Check.same("16 NONE (and no rows) behind clashes", x.row(0), -1);
    }

    private static String clashes(Counted x, int edition) {
        int count = x.clashes(edition);
        Check.same("17 no row behind the last", x.row(count), -1);
        return Check.rows(x);
    }

    private static void clashesByCase() {
        Counted x = new Counted();
        for (String path : new String[] {"A", "a", "Z", "z", "aZ", "Az", "AZ", "B", "c", "-", "_", "M", "n"}) {
            Check.put(x, 0, path, false);
        }
        Check.edition(x, 0);
        Check.same("17 but for letters' case", clashes(x, 0), "6Az 6a 6aZ 6z");
        Counted deep = new Counted();
        Check.put(deep, 0, "D/x", false);
        Check.put(deep, 0, "d/X", false);
        Check.link(deep, 0, "d/x>d");
        Check.put(deep, 0, "d/y/q/Q", false);
        Check.folder(deep, 0, "d/y/Q");
        Check.put(deep, 0, "y", false);
        Check.edition(deep, 0);
        Check.same("17 in the same folder, a folder before those in it", clashes(deep, 0), "6d 6d/x 6d/y/q");
        Check.same("17 no other path", deep.path(0, true, 0), 0);
        Counted wide = new Counted();
        for (int i = 0; i < 26; i++) {
            Check.put(wide, 0, "" + (char) ('A' + i), false);
            Check.put(wide, 0, "" + (char) ('a' + i), false);
        }
        Check.edition(wide, 0);
        Check.same("17 all letters", wide.clashes(0), 26);
        Check.same("17 the first of them", wide.path(0, false, 0), 'a');
        Check.same("17 the last of them", wide.path(25, false, 0), 'z');
        Check.same("17 behind the last", wide.row(26), -1);
    }

    private static void clashesIgnored() {
        Counted x = new Counted();
        Check.put(x, 0, "AB/x", false);
        Check.put(x, 0, "Ab/y", false);
        Check.put(x, 0, "ab/z", false);
        Check.put(x, 0, "ab/Z", false);
        Check.edition(x, 0);
        Check.same("17 before", clashes(x, 0), "6Ab 6ab 6ab/z");
        Check.ignore(x, "z");
        Check.same("17 but for what is IGNORED", clashes(x, 0), "6Ab 6ab");
        Check.ignore(x, "ab");
        Check.same("17 and what lies in it", clashes(x, 0), "6Ab");
        Check.ignore(x, "*");
        Check.same("17 all is IGNORED", clashes(x, 0), "");
        Check.same("17 none such, and all is IGNORED", x.clashes(1), -1);
    }

    private static void rowEdges() {
        for (int count : new int[] {0, 1, 2, 20}) {
            Counted x = new Counted();
            Check.edition(x, 0);
            for (int i = 0; i < count; i++) {
                Check.put(x, 0, "" + (char) ('a' + i), false);
            }
            Check.edition(x, 0);
            Check.same("18 how many", x.differ(0, 1), count);
            for (int i : new int[] {-1, count, count + 1, 199, 200, 201, LEAST, MOST}) {
                Check.same("18 NONE if there is none such: " + i + " of " + count, x.row(i), -1);
                Check.same("19 0 if there is none such: " + i + " of " + count, x.path(i, false, 0), 0);
                Check.same("19 0 if there is no other: " + i + " of " + count, x.path(i, true, 0), 0);
            }
            for (int i = 0; i < count; i++) {
                Check.same("18 a row's kind", x.row(i), 0);
                Check.same("19 a row's path", x.path(i, false, 0), 'a' + i);
            }
        }
    }

    private static void pathEdges() {
        String longest = "abcdefghijkl/abcdefghijkl/abcdefghijkl/abcdefghijkl/abcdefghijkl/abcdefghijkl/abcdefghijkl/"
            + "ABCDEFGHIJKL";
        for (String path : new String[] {"a", "ab", "a/b", EIGHT, longest}) {
            Counted x = new Counted();
            Check.put(x, 0, path, false);
            Check.edition(x, 0);
            Check.edition(x, 1);
            x.differ(0, 1);
            int length = path.length();
            for (int k : new int[] {-1, length, length + 1, 2 * length, LEAST, MOST, LEAST + 1, MOST - 1}) {
                Check.same("19 0 if there is none such: " + k + " of " + path, x.path(0, false, k), 0);
                Check.same("19 0 if there is no such row: " + k, x.path(k == length ? 1 : k, false, k), 0);
            }
            Check.same("19 all characters", Check.path(x, 0, false), path);
            Check.same("19 the first one", x.path(0, false, 0), path.charAt(0));
            Check.same("19 the last one", x.path(0, false, length - 1), path.charAt(length - 1));
        }
    }

    private static void pathOfTheOther() {
        Counted x = new Counted();
        Check.put(x, 0, "a/bc", false, 1);
        Check.put(x, 0, "c", false, 2);
        Check.put(x, 0, "d", false, 3);
        Check.link(x, 0, "k>c");
        Check.edition(x, 0);
        Check.put(x, 1, "x/y/z", false, 1);
        Check.put(x, 1, "c", false, 4);
        Check.put(x, 1, "d", true, 3);
        Check.put(x, 1, "e", false, 5);
        Check.put(x, 1, "k", false, 5);
        Check.edition(x, 1);
        Check.same("19 the rows", differ(x, 0, 1), "5a/bc>x/y/z 2c 3d 0e 4k");
        for (int k : new int[] {-1, 5, 6, LEAST, MOST}) {
            Check.same("19 0 if there is none such in the other: " + k, x.path(0, true, k), 0);
        }
        Check.same("19 the last one of the other", x.path(0, true, 4), 'z');
        Check.same("19 the last one of the first", x.path(0, false, 3), 'c');
        Check.same("19 none behind it", x.path(0, false, 4), 0);
        for (int i = 1; i < 5; i++) {
            for (int k : new int[] {-1, 0, 1, LEAST, MOST}) {
                Check.same("19 (second) of RENAMED alone: " + i, x.path(i, true, k), 0);
            }
        }
        x.differ(1, 0);
        Check.same("19 the other way", Check.rows(x), "2c 3d 1e 4k 5x/y/z>a/bc");
    }

    private static void changesUpTo12() {
        for (int count = 0; count <= 14; count++) {
            Counted x = new Counted();
            for (int i = 0; i < count; i++) {
                Check.put(x, 3, "" + (char) ('a' + i), false);
            }
            Check.same("20 - 2 behind more than 12: " + count, x.changes(3), count > 12 ? -2 : count);
            Check.same("20 of a tree: the others have none", x.changes(0) + x.changes(1) + x.changes(2), 0);
            Check.same("21 the last one", x.change(3, count - 1, 0), count < 1 || count > 12 ? 0 : 'a' + count - 1);
            Check.same("21 none behind it", x.change(3, count, 0), 0);
            Check.same("21 none below", x.change(3, -1, 0), 0);
        }
        Counted x = new Counted();
        for (int i = 0; i < 12; i++) {
            Check.put(x, 0, "f", false, i);
        }
        Check.same("20 also if two are the same", Check.changes(x, 0), "f f f f f f f f f f f f");
        Check.put(x, 0, "f", false, 11);
        Check.same("20 the twelve, and one that made it no other", x.changes(0), 12);
        Check.remove(x, 0, "f");
        Check.same("20 thirteen", x.changes(0), -2);
        x.seen(0);
        for (int i = 0; i < 12; i++) {
            Check.put(x, 0, "f", false, i);
        }
        Check.same("20 since it was seen", x.changes(0), 12);
    }

    private static void changesThatAreNone() {
        Counted x = new Counted();
        Check.put(x, 0, "d/f", false, 1);
        Check.link(x, 0, "l>d");
        Check.folder(x, 0, "e");
        Check.remove(x, 0, "e");
        Check.same("20 put, link, folder, remove", Check.changes(x, 0), "d/f l e e");
        x.seen(0);
        Check.put(x, 0, "d/f", false, 1);
        Check.link(x, 0, "l>d");
        Check.folder(x, 0, "d");
        Check.put(x, 0, "d", false);
        Check.link(x, 0, "l/x>d");
        Check.folder(x, 0, "l");
        Check.remove(x, 0, "e");
        Check.put(x, 0, "/", false);
        Check.look(x, 0, "d/f");
        Check.ignore(x, "d");
        Check.edition(x, 0);
        x.back(0, 0);
        x.back(0, 1);
        Check.same("20 that made it another one", x.changes(0), 0);
        Check.put(x, 0, "d/f", true, 1);
        Check.put(x, 0, "d/f", true, 2);
        Check.put(x, 0, "d/f", true);
        Check.link(x, 0, "d/f>d");
        Check.link(x, 0, "d/f>e");
        Check.put(x, 0, "d/f", false, 1);
        Check.same("20 each made it another one, IGNORED or not", Check.changes(x, 0), "d/f d/f d/f d/f d/f d/f");
    }

    private static void changesByBack() {
        Counted x = new Counted();
        Check.edition(x, 0);
        Check.put(x, 0, "a", false);
        Check.edition(x, 0);
        Check.put(x, 1, "a", false);
        Check.same("20 a back to what it is", x.back(0, 1), true);
        Check.same("20 is no change", x.changes(0), 1);
        x.back(1, 1);
        Check.same("20 a back to the same tree of another", x.changes(1), 1);
        x.back(0, 0);
        Check.same("20 a back that made it another one", x.changes(0), -2);
        Check.put(x, 0, "b", false);
        Check.same("20 still ALL", x.changes(0), -2);
        x.seen(0);
        Check.same("20 till it is seen", x.changes(0), 0);
        Check.put(x, 0, "c", false);
        Check.same("20 one since then", Check.changes(x, 0), "c");
        x.back(2, 2);
        x.back(2, 0);
        Check.same("20 a refused back, and one to an empty tree", x.changes(2), 0);
        x.back(2, 1);
        Check.same("20 with no change before it", x.changes(2), -2);
        x.back(2, 0);
        Check.same("20 back and forth are two changes", x.changes(2), -2);
    }

    private static void changeEdges() {
        Counted x = new Counted();
        Check.put(x, 0, "a/bc", false);
        Check.link(x, 0, "d>a/bc");
        Check.same("21 the last character", x.change(0, 0, 3), 'c');
        Check.same("21 of a link the PATH alone", x.change(0, 1, 0), 'd');
        for (int k : new int[] {-1, 4, 5, LEAST, MOST}) {
            Check.same("21 0 if there is none such: character " + k, x.change(0, 0, k), 0);
            Check.same("21 0 if there is none such: of a link " + k, x.change(0, 1, k == 4 ? 1 : k), 0);
            Check.same("21 0 if there is none such: change " + k, x.change(0, k == 4 ? 2 : k, 0), 0);
            Check.same("21 0 if there is none such: of no change", x.change(3, 0, k), 0);
            Check.same("21 0 if there is none such: of no tree", x.change(k == 5 ? 4 : k, k, k), 0);
        }
        x.seen(0);
        Check.same("21 0 behind seen", x.change(0, 0, 0), 0);
        Check.put(x, 0, "q", false);
        Check.same("21 the new one", Check.changes(x, 0), "q");
        Check.same("21 nothing of the old one", x.change(0, 0, 1), 0);
        Check.same("21 nor of the second one", x.change(0, 1, 0), 0);
    }

    private static void changeOfAll() {
        Counted x = new Counted();
        for (int i = 0; i < 12; i++) {
            Check.put(x, 0, "f", false, i);
        }
        Check.same("21 the twelfth", x.change(0, 11, 0), 'f');
        Check.same("21 no thirteenth", x.change(0, 12, 0), 0);
        Check.put(x, 0, "f", false, 12);
        for (int i = -2; i <= 13; i++) {
            Check.same("21 0 if ALL: " + i, x.change(0, i, 0), 0);
        }
        Check.put(x, 1, "g", false);
        Check.edition(x, 2);
        x.back(1, 0);
        Check.same("21 0 if ALL by a back", x.change(1, 0, 0), 0);
        Check.put(x, 1, "h", false);
        Check.same("21 0 if ALL, behind one more", x.change(1, 0, 0) + x.change(1, 1, 0), 0);
    }

    private static void seenEdges() {
        Counted x = new Counted();
        for (int tree = 0; tree < 4; tree++) {
            Check.put(x, tree, "f", false);
        }
        for (int tree : NO_TREES) {
            Check.same("22 false if there is no such tree: " + tree, x.seen(tree), false);
        }
        for (int tree = 0; tree < 4; tree++) {
            Check.same("22 not seen yet", x.changes(tree), 1);
            Check.same("22 seen", x.seen(tree), true);
            Check.same("22 its changes are seen", x.changes(tree), 0);
            Check.same("22 the tree stays", Check.look(x, tree, "f"), 2);
            Check.same("22 seen with none", x.seen(tree), true);
        }
    }
}
