import java.util.Arrays;

/**
 * Trees of files, folders and links by paths, with editions, differences, clashes and watched changes.
 *
 * NODES never change once they are made: a call that changes a tree makes the folders on its PATH anew and
 * shares all the others, so that an edition is no more than a tree's root kept.
 */
public final class SourceTree {
    public static final int NONE = -1;

    private static final int TREE_COUNT = 4;
    private static final int MOST_TEXT = 120;
    private static final int MOST_BYTES = 40;
    private static final int MOST_LETTERS = 12;
    private static final int MOST_NAMES = 8;
    private static final int MOST_NODES = 100;
    private static final int MOST_LINKS = 16;
    private static final int MOST_EDITIONS = 16;
    private static final int MOST_PATTERNS = 4;
    private static final int MOST_CHANGES = 12;
    private static final int MOST_ROWS = 2 * MOST_NODES;

    private static final int NOTHING = 0;
    private static final int A_FOLDER = 1;
    private static final int A_FILE = 2;
    private static final int AN_EXECUTABLE = 3;
    private static final int ROUND = 4;

    private static final int ADDED = 0;
    private static final int REMOVED = 1;
    private static final int CONTENT = 2;
    private static final int MARK = 3;
    private static final int KIND = 4;
    private static final int RENAMED = 5;
    private static final int CLASH = 6;

    private static final int ALL = -2;

    private final StringBuilder text;
    private final int[] octets;
    private int octetCount;
    private final Tree[] trees;
    private final Folder[] editions;
    private int editionCount;
    private final Patterns ignored;
    private final Rows rows;
    private final Walk walk;
    private File looked;

    public SourceTree() {
        text = new StringBuilder();
        octets = new int[MOST_BYTES];
        trees = new Tree[TREE_COUNT];
        for (int i = 0; i < TREE_COUNT; i++) {
            trees[i] = new Tree();
        }
        editions = new Folder[MOST_EDITIONS];
        ignored = new Patterns();
        rows = new Rows(ignored);
        walk = new Walk();
    }

    public boolean type(char c) {
        if (c < 32 || c > 126 || text.length() >= MOST_TEXT) {
            return false;
        }
        text.append(c);
        return true;
    }

    public boolean octet(int b) {
        if (b < 0 || b > 255 || octetCount >= MOST_BYTES) {
            return false;
        }
        octets[octetCount] = b;
        octetCount++;
        return true;
    }

    public int put(int tree, boolean executable) throws IllegalArgumentException, IllegalStateException {
        int[] bytes = Arrays.copyOf(octets, octetCount);
        Route route = Route.read(takeText());
        Tree changed = treeAt(tree);
        if (changed == null || route == null) {
            throw new IllegalArgumentException("put: no such tree, or TEXT is no PATH");
        }
        return place(changed, route, new File(route.last(), bytes, executable));
    }

    public int link(int tree) throws IllegalArgumentException, IllegalStateException {
        String taken = takeText();
        int arrow = taken.indexOf('>');
        Route route = arrow < 0 ? null : Route.read(taken.substring(0, arrow));
        Route target = arrow < 0 ? null : Route.read(taken.substring(arrow + 1, taken.length()));
        Tree changed = treeAt(tree);
        if (changed == null || route == null || target == null) {
            throw new IllegalArgumentException("link: no such tree, or TEXT is not a PATH, > and a PATH");
        }
        return place(changed, route, new Link(route.last(), target));
    }

    public int folder(int tree) throws IllegalArgumentException, IllegalStateException {
        Route route = Route.read(takeText());
        Tree changed = treeAt(tree);
        if (changed == null || route == null) {
            throw new IllegalArgumentException("folder: no such tree, or TEXT is no PATH");
        }
        return place(changed, route, new Folder(route.last(), new Node[0]));
    }

    public int remove(int tree) throws IllegalArgumentException, IllegalStateException {
        Route route = Route.read(takeText());
        Tree changed = treeAt(tree);
        if (changed == null || route == null) {
            throw new IllegalArgumentException("remove: no such tree, or TEXT is no PATH");
        }
        Folder rest = changed.root.without(route, 0);
        if (rest == null) {
            throw new IllegalStateException("remove: there is nothing at the PATH");
        }
        return -changed.become(rest, route);
    }

    public int look(int tree) throws IllegalArgumentException {
        Route route = Route.read(takeText());
        Tree walked = treeAt(tree);
        if (walked == null || route == null) {
            throw new IllegalArgumentException("look: no such tree, or TEXT is no PATH");
        }
        Node end = walk.follow(walked.root, route);
        if (end instanceof File found) {
            looked = found;
            return found.executable ? AN_EXECUTABLE : A_FILE;
        }
        if (end instanceof Folder) {
            return A_FOLDER;
        }
        return walk.wentRound() ? ROUND : NOTHING;
    }

    public int size() {
        return looked == null ? NONE : looked.bytes.length;
    }

    public int byteAt(int k) {
        if (looked == null || k < 0 || k >= looked.bytes.length) {
            return NONE;
        }
        return looked.bytes[k];
    }

    public int edition(int tree) throws IllegalArgumentException, IllegalStateException {
        Tree kept = treeAt(tree);
        if (kept == null) {
            throw new IllegalArgumentException("edition: no such tree");
        }
        if (editionCount >= MOST_EDITIONS) {
            throw new IllegalStateException("edition: there are 16");
        }
        int number = editionCount;
        editions[number] = kept.root;
        editionCount++;
        return number;
    }

    public boolean back(int tree, int edition) {
        Tree changed = treeAt(tree);
        Folder old = editionAt(edition);
        if (changed == null || old == null) {
            return false;
        }
        changed.goBack(old);
        return true;
    }

    public long digest(int edition) {
        Folder root = editionAt(edition);
        return root == null ? 0L : root.hash;
    }

    public int nodes(int edition) {
        Folder root = editionAt(edition);
        return root == null ? NONE : ignored.countOthers(root, 0);
    }

    public void ignore() throws IllegalArgumentException, IllegalStateException {
        Pattern pattern = Pattern.read(takeText());
        if (pattern == null) {
            throw new IllegalArgumentException("ignore: TEXT is no PATTERN");
        }
        if (!ignored.add(pattern)) {
            throw new IllegalStateException("ignore: there are 4");
        }
    }

    public int differ(int first, int second) {
        return rows.compare(editionAt(first), editionAt(second));
    }

    public int clashes(int edition) {
        return rows.collectClashes(editionAt(edition));
    }

    public int row(int i) {
        return rows.kindOf(i);
    }

    public int path(int i, boolean second, int k) {
        return rows.letterOf(i, second, k);
    }

    public int changes(int tree) {
        Tree watched = treeAt(tree);
        return watched == null ? NONE : watched.countChanges();
    }

    public int change(int tree, int i, int k) {
        Tree watched = treeAt(tree);
        return watched == null ? 0 : watched.changeLetter(i, k);
    }

    public boolean seen(int tree) {
        Tree watched = treeAt(tree);
        if (watched == null) {
            return false;
        }
        watched.forgetChanges();
        return true;
    }

    /** Both are emptied before anything can be refused, because a refused call empties them too. */
    private String takeText() {
        String taken = text.toString();
        text.setLength(0);
        octetCount = 0;
        return taken;
    }

    private Tree treeAt(int tree) {
        return tree < 0 || tree >= TREE_COUNT ? null : trees[tree];
    }

    private Folder editionAt(int edition) {
        return edition < 0 || edition >= editionCount ? null : editions[edition];
    }

    private static int place(Tree tree, Route route, Node leaf) {
        Folder built = tree.root.with(route, leaf, 0);
        if (built == null) {
            throw new IllegalStateException("something else is on the way or at the PATH");
        }
        if (built.inside() > MOST_NODES) {
            throw new IllegalStateException("there would be more than 100 nodes");
        }
        return tree.become(built, route);
    }

    /** A NAME. */
    private static final class Name {
        final String letters;

        Name(String letters) {
            this.letters = letters;
        }

        /** The NAME that a text is; null if it is none. */
        static Name read(String text) {
            return isName(text, false) ? new Name(text) : null;
        }

        /** Whether a text is a NAME, or, with stars, a PATTERN. */
        static boolean isName(String text, boolean stars) {
            if (text.isEmpty() || text.length() > MOST_LETTERS || text.equals(".") || text.equals("..")) {
                return false;
            }
            for (int i = 0; i < text.length(); i++) {
                char c = text.charAt(i);
                if (!isNameLetter(c) && !(stars && c == '*')) {
                    return false;
                }
            }
            return true;
        }

        private static boolean isNameLetter(char c) {
            return c >= 'a' && c <= 'z' || c >= 'A' && c <= 'Z' || c >= '0' && c <= '9'
                    || c == '.' || c == '_' || c == '-';
        }

        /** Below 0 if this NAME comes before the other one, 0 if they are the same, else above 0. */
        int order(Name other) {
            int shared = Math.min(letters.length(), other.letters.length());
            for (int i = 0; i < shared; i++) {
                int order = letters.charAt(i) - other.letters.charAt(i);
                if (order != 0) {
                    return order;
                }
            }
            return letters.length() - other.letters.length();
        }

        boolean isButForCase(Name other) {
            if (letters.length() != other.letters.length()) {
                return false;
            }
            for (int i = 0; i < letters.length(); i++) {
                if (small(letters.charAt(i)) != small(other.letters.charAt(i))) {
                    return false;
                }
            }
            return true;
        }

        private static int small(char c) {
            return c >= 'A' && c <= 'Z' ? c - 'A' + 'a' : c;
        }
    }

    /** A PATH. */
    private static final class Route {
        final String text;
        private final Name[] names;
        private final int count;

        private Route(String text, Name[] names, int count) {
            this.text = text;
            this.names = names;
            this.count = count;
        }

        /** The PATH that a text is; null if it is none. */
        static Route read(String text) {
            Name[] names = new Name[MOST_NAMES];
            int count = 0;
            int start = 0;
            for (int i = 0; i <= text.length(); i++) {
                if (i == text.length() || text.charAt(i) == '/') {
                    Name name = Name.read(text.substring(start, i));
                    if (name == null || count >= MOST_NAMES) {
                        return null;
                    }
                    names[count] = name;
                    count++;
                    start = i + 1;
                }
            }
            return new Route(text, names, count);
        }

        /** Null behind the last NAME. */
        Name nameAt(int i) {
            return i < 0 || i >= count ? null : names[i];
        }

        Name last() {
            return nameAt(count - 1);
        }

        boolean endsAt(int i) {
            return i == count - 1;
        }
    }

    /** A PATTERN. */
    private static final class Pattern {
        private final String letters;

        private Pattern(String letters) {
            this.letters = letters;
        }

        /** The PATTERN that a text is; null if it is none. */
        static Pattern read(String text) {
            return Name.isName(text, true) ? new Pattern(text) : null;
        }

        /**
         * Bit n of the ends says that the PATTERN's part so far may stand for the NAME's first n characters: all
         * ways are gone at once, because trying the stars one by one takes millions of steps for a dozen of them.
         */
        boolean fits(Name name) {
            int length = name.letters.length();
            int ends = 1;
            for (int i = 0; i < letters.length(); i++) {
                char c = letters.charAt(i);
                // A star may end at its own start and anywhere behind it: the lowest bit and all above.
                int behind = c == '*' ? -(ends & -ends) : 0;
                for (int n = 0; n < length; n++) {
                    if ((ends >> n & 1) == 1 && name.letters.charAt(n) == c) {
                        behind |= 1 << (n + 1);
                    }
                }
                ends = behind;
            }
            return (ends >> length & 1) == 1;
        }
    }

    /** The PATTERNS of what is IGNORED. */
    private static final class Patterns {
        private final Pattern[] patterns = new Pattern[MOST_PATTERNS];
        private int count;

        /** False if there is no room for one more. */
        boolean add(Pattern pattern) {
            if (count >= MOST_PATTERNS) {
                return false;
            }
            patterns[count] = pattern;
            count++;
            return true;
        }

        boolean fit(Node node) {
            for (int i = 0; i < count; i++) {
                Pattern pattern = patterns[i];
                if (pattern != null && pattern.fits(node.name)) {
                    return true;
                }
            }
            return false;
        }

        /** How many NODES of a FOLDER are not IGNORED. */
        int countOthers(Folder folder, int depth) {
            int others = 0;
            for (int i = 0; i < folder.width(); i++) {
                Node node = folder.nodeAt(i);
                if (node == null || fit(node)) {
                    continue;
                }
                others++;
                if (node instanceof Folder inner && depth < MOST_NAMES) {
                    others += countOthers(inner, depth + 1);
                }
            }
            return others;
        }
    }

    /** A NODE; the whole is how many NODES it is, with all in it. */
    private abstract static class Node {
        static final long FACTOR = 1000003L;

        final Name name;
        final int whole;
        final long hash;

        Node(Name name, int whole, long hash) {
            this.name = name;
            this.whole = whole;
            this.hash = hash;
        }

        /** Whether the other NODE is the same but for its NAME; DIGESTS can't tell, two may be alike by chance. */
        abstract boolean isLike(Node other, int depth);

        static long digestText(long start, String text) {
            long h = start;
            for (int i = 0; i < text.length(); i++) {
                h = FACTOR * h + text.charAt(i);
            }
            return h;
        }
    }

    /** A FILE. */
    private static final class File extends Node {
        final int[] bytes;
        final boolean executable;

        File(Name name, int[] bytes, boolean executable) {
            super(name, 1, digestBytes(bytes, executable));
            this.bytes = bytes;
            this.executable = executable;
        }

        private static long digestBytes(int[] bytes, boolean executable) {
            long h = executable ? 19 : 17;
            for (int i = 0; i < bytes.length; i++) {
                h = FACTOR * h + bytes[i] + 1;
            }
            return h;
        }

        boolean isLike(Node other, int depth) {
            return other instanceof File file && file.executable == executable && hasBytesOf(file);
        }

        boolean hasBytesOf(File other) {
            if (bytes.length != other.bytes.length) {
                return false;
            }
            for (int i = 0; i < bytes.length; i++) {
                if (bytes[i] != other.bytes[i]) {
                    return false;
                }
            }
            return true;
        }
    }

    /** A LINK. */
    private static final class Link extends Node {
        final Route target;

        Link(Name name, Route target) {
            super(name, 1, digestText(23, target.text));
            this.target = target;
        }

        boolean isLike(Node other, int depth) {
            return other instanceof Link link && link.target.text.equals(target.text);
        }
    }

    /** A FOLDER, its NODES in the order of their NAMES. */
    private static final class Folder extends Node {
        private final Node[] inner;

        Folder(Name name, Node[] inner) {
            super(name, 1 + wholeOf(inner), digestNodes(inner));
            this.inner = inner;
        }

        private static int wholeOf(Node[] inner) {
            int sum = 0;
            for (int i = 0; i < inner.length; i++) {
                Node node = inner[i];
                sum += node == null ? 0 : node.whole;
            }
            return sum;
        }

        private static long digestNodes(Node[] inner) {
            long h = 29;
            for (int i = 0; i < inner.length; i++) {
                Node node = inner[i];
                if (node != null) {
                    h = FACTOR * digestText(h, node.name.letters) + node.hash;
                }
            }
            return h;
        }

        /** How many NODES lie in it, at any depth. */
        int inside() {
            return whole - 1;
        }

        int width() {
            return inner.length;
        }

        /** Null behind the last NODE. */
        Node nodeAt(int i) {
            return i < 0 || i >= inner.length ? null : inner[i];
        }

        /** Null if there is no such NAME. */
        Node find(Name name) {
            Node node = nodeAt(indexFor(name));
            return node != null && node.name.order(name) == 0 ? node : null;
        }

        /** The index of the first NODE that doesn't come before a NAME. */
        private int indexFor(Name name) {
            for (int i = 0; i < inner.length; i++) {
                Node node = inner[i];
                if (node != null && node.name.order(name) >= 0) {
                    return i;
                }
            }
            return inner.length;
        }

        boolean isLike(Node other, int depth) {
            // Shared parts are the same without a look into them.
            if (other == this) {
                return true;
            }
            return depth <= MOST_NAMES && other instanceof Folder folder && hasNodesOf(folder, depth);
        }

        private boolean hasNodesOf(Folder other, int depth) {
            if (inner.length != other.inner.length) {
                return false;
            }
            for (int i = 0; i < inner.length; i++) {
                Node mine = inner[i];
                Node its = other.inner[i];
                if (mine == null || its == null || mine.name.order(its.name) != 0 || !mine.isLike(its, depth + 1)) {
                    return false;
                }
            }
            return true;
        }

        /** This FOLDER with a leaf at the end of a PATH; null if something else is on the way or there. */
        Folder with(Route route, Node leaf, int depth) {
            Name next = route.nameAt(depth);
            if (next == null || depth >= MOST_NAMES) {
                return null;
            }
            Node there = find(next);
            boolean last = route.endsAt(depth);
            boolean folderDue = !last || leaf instanceof Folder;
            if (there != null && (there instanceof Folder) != folderDue) {
                return null;
            }
            if (last) {
                return there instanceof Folder ? this : holding(leaf);
            }
            Folder below = there instanceof Folder found ? found : new Folder(next, new Node[0]);
            Folder built = below.with(route, leaf, depth + 1);
            return built == null ? null : holding(built);
        }

        /** This FOLDER without what is at a PATH; null if there is nothing. */
        Folder without(Route route, int depth) {
            Name next = route.nameAt(depth);
            Node there = next == null || depth >= MOST_NAMES ? null : find(next);
            if (there == null) {
                return null;
            }
            if (route.endsAt(depth)) {
                return lacking(indexFor(next));
            }
            Folder rest = there instanceof Folder below ? below.without(route, depth + 1) : null;
            return rest == null ? null : holding(rest);
        }

        /** This FOLDER with a NODE among its own, in place of one with the same NAME. */
        private Folder holding(Node node) {
            int at = indexFor(node.name);
            Node there = nodeAt(at);
            int more = there != null && there.name.order(node.name) == 0 ? 0 : 1;
            Node[] made = new Node[inner.length + more];
            for (int i = 0; i < made.length; i++) {
                made[i] = i == at ? node : nodeAt(i < at ? i : i - more);
            }
            return new Folder(name, made);
        }

        private Folder lacking(int at) {
            if (at < 0 || at >= inner.length) {
                return this;
            }
            Node[] made = new Node[inner.length - 1];
            for (int i = 0; i < made.length; i++) {
                made[i] = nodeAt(i < at ? i : i + 1);
            }
            return new Folder(name, made);
        }

        /**
         * A character of the path to the NODE at a place; 0 if there is none. Places count this FOLDER's NODES from
         * 0 on, each before those in it: a row keeps a place instead of a copied path.
         */
        int pathLetter(int place, int k, int depth) {
            int left = place;
            for (int i = 0; i < inner.length; i++) {
                Node node = inner[i];
                if (node != null && left < node.whole) {
                    return letterThrough(node, left, k, depth);
                }
                left -= node == null ? 0 : node.whole;
            }
            return 0;
        }

        private static int letterThrough(Node node, int left, int k, int depth) {
            String letters = node.name.letters;
            if (k < letters.length()) {
                return k < 0 ? 0 : letters.charAt(k);
            }
            if (left > 0 && depth < MOST_NAMES && node instanceof Folder folder) {
                int behind = k - letters.length();
                return behind == 0 ? '/' : folder.pathLetter(left - 1, behind - 1, depth + 1);
            }
            return 0;
        }
    }

    /** One of the TREES, and its changes since it was seen. */
    private static final class Tree {
        Folder root = new Folder(new Name(""), new Node[0]);
        private final Route[] changed = new Route[MOST_CHANGES];
        private int count;
        private boolean all;

        /** Takes what a call with a PATH has built, and tells how many NODES more there are. */
        int become(Folder built, Route route) {
            int more = built.whole - root.whole;
            if (!built.isLike(root, 0)) {
                root = built;
                note(route);
            }
            return more;
        }

        void goBack(Folder old) {
            if (!old.isLike(root, 0)) {
                root = old;
                all = true;
            }
        }

        private void note(Route route) {
            if (count >= MOST_CHANGES) {
                all = true;
                return;
            }
            changed[count] = route;
            count++;
        }

        int countChanges() {
            return all ? ALL : count;
        }

        int changeLetter(int i, int k) {
            Route route = all || i < 0 || i >= count ? null : changed[i];
            return route == null || k < 0 || k >= route.text.length() ? 0 : route.text.charAt(k);
        }

        void forgetChanges() {
            count = 0;
            all = false;
        }
    }

    /** Follows a PATH: on a stack, the PATH and the TARGETS of the LINKS come to, with the NAMES left in each. */
    private static final class Walk {
        private final Route[] open = new Route[1 + MOST_LINKS];
        private final int[] used = new int[1 + MOST_LINKS];
        private int height;
        private boolean round;

        /** The FILE or FOLDER that the PATH comes to; null if it comes to NOTHING or goes ROUND. */
        Node follow(Folder root, Route route) {
            height = 0;
            round = false;
            int links = 0;
            push(route);
            Node here = root;
            for (int step = 0; step < open.length * MOST_NAMES; step++) {
                Name next = nextName();
                if (next == null) {
                    return here;
                }
                Node node = here instanceof Folder folder ? folder.find(next) : null;
                if (node instanceof Link link) {
                    if (links >= MOST_LINKS) {
                        round = true;
                        return null;
                    }
                    links++;
                    push(link.target);
                    here = root;
                } else {
                    here = node;
                }
            }
            return here;
        }

        boolean wentRound() {
            return round;
        }

        private void push(Route route) {
            if (height < open.length) {
                open[height] = route;
                used[height] = 0;
                height++;
            }
        }

        /** Null if no NAMES are left. */
        private Name nextName() {
            while (height > 0) {
                int top = height - 1;
                Route route = open[top];
                Name name = route == null ? null : route.nameAt(used[top]);
                if (name != null) {
                    used[top]++;
                    return name;
                }
                height = top;
            }
            return null;
        }
    }

    /** The rows of what DIFFERS or CLASHES; a place is that of Folder.pathLetter. */
    private static final class Rows {
        private static final int GONE = -1;

        private final Patterns ignored;
        private final int[] kinds = new int[MOST_ROWS];
        private final int[] places = new int[MOST_ROWS];
        private final int[] newPlaces = new int[MOST_ROWS];
        private final Node[] nodes = new Node[MOST_ROWS];
        private int count;
        private Folder first;
        private Folder second;

        Rows(Patterns ignored) {
            this.ignored = ignored;
        }

        int compare(Folder before, Folder after) {
            count = 0;
            if (before == null || after == null) {
                return NONE;
            }
            first = before;
            second = after;
            compareFolders(before, after, 0, 0, 0);
            findRenames();
            return count;
        }

        int collectClashes(Folder root) {
            count = 0;
            if (root == null) {
                return NONE;
            }
            first = root;
            addClashes(root, 0, 0);
            return count;
        }

        int kindOf(int i) {
            return i < 0 || i >= count ? NONE : kinds[i];
        }

        int letterOf(int i, boolean other, int k) {
            int kind = kindOf(i);
            if (kind == NONE || k < 0 || other && kind != RENAMED) {
                return 0;
            }
            Folder root = other || kind == ADDED ? second : first;
            return root == null ? 0 : root.pathLetter(other ? newPlaces[i] : places[i], k, 0);
        }

        private void add(int kind, Node node, int place) {
            if (count < MOST_ROWS) {
                kinds[count] = kind;
                places[count] = place;
                nodes[count] = node;
                count++;
            }
        }

        private void compareFolders(Folder before, Folder after, int placeBefore, int placeAfter, int depth) {
            int i = 0;
            int j = 0;
            int here = placeBefore;
            int there = placeAfter;
            int turns = depth < MOST_NAMES ? before.width() + after.width() : 0;
            for (int turn = 0; turn < turns; turn++) {
                Node old = before.nodeAt(i);
                Node young = after.nodeAt(j);
                int order = orderOf(old, young);
                Node inFirst = order <= 0 ? old : null;
                Node inSecond = order >= 0 ? young : null;
                compareNodes(inFirst, inSecond, here, there, depth);
                if (inFirst != null) {
                    here += inFirst.whole;
                    i++;
                }
                if (inSecond != null) {
                    there += inSecond.whole;
                    j++;
                }
            }
        }

        /** What is behind a FOLDER's last NODE, and so null, comes last. */
        private static int orderOf(Node old, Node young) {
            if (old == null) {
                return young == null ? 0 : 1;
            }
            return young == null ? -1 : old.name.order(young.name);
        }

        /** Two NODES of the same path, null where there is none. */
        private void compareNodes(Node old, Node young, int placeOld, int placeYoung, int depth) {
            if (old != null && ignored.fit(old) || young != null && ignored.fit(young)) {
                return;
            }
            if (old instanceof Folder before && young instanceof Folder after) {
                compareFolders(before, after, placeOld + 1, placeYoung + 1, depth + 1);
            } else if (isLeaf(old) && isLeaf(young)) {
                int kind = differenceOf(old, young);
                if (kind != NONE) {
                    add(kind, old, placeOld);
                }
            } else if (isLeaf(young)) {
                addWhole(ADDED, young, placeYoung, depth);
                addWhole(REMOVED, old, placeOld, depth);
            } else {
                addWhole(REMOVED, old, placeOld, depth);
                addWhole(ADDED, young, placeYoung, depth);
            }
        }

        private static boolean isLeaf(Node node) {
            return node != null && !(node instanceof Folder);
        }

        private static int differenceOf(Node old, Node young) {
            if (old instanceof File before && young instanceof File after) {
                if (!before.hasBytesOf(after)) {
                    return CONTENT;
                }
                return before.executable == after.executable ? NONE : MARK;
            }
            return old.isLike(young, 0) ? NONE : KIND;
        }

        private void addWhole(int kind, Node node, int place, int depth) {
            if (node instanceof Folder folder) {
                int here = place + 1;
                for (int i = 0; i < folder.width() && depth < MOST_NAMES; i++) {
                    Node inner = folder.nodeAt(i);
                    if (inner != null && !ignored.fit(inner)) {
                        addWhole(kind, inner, here, depth + 1);
                    }
                    here += inner == null ? 0 : inner.whole;
                }
            } else if (node != null) {
                add(kind, node, place);
            }
        }

        private void findRenames() {
            for (int i = 0; i < count; i++) {
                if (kinds[i] == REMOVED && nodes[i] instanceof File file) {
                    int taken = firstAdded(file);
                    if (taken != NONE) {
                        kinds[i] = RENAMED;
                        newPlaces[i] = places[taken];
                        kinds[taken] = GONE;
                    }
                }
            }
            dropGone();
        }

        private int firstAdded(File file) {
            for (int i = 0; i < count; i++) {
                if (kinds[i] == ADDED && file.isLike(nodes[i], 0)) {
                    return i;
                }
            }
            return NONE;
        }

        private void dropGone() {
            int kept = 0;
            for (int i = 0; i < count; i++) {
                if (kinds[i] != GONE) {
                    kinds[kept] = kinds[i];
                    places[kept] = places[i];
                    newPlaces[kept] = newPlaces[i];
                    kept++;
                }
            }
            count = kept;
        }

        private void addClashes(Folder folder, int place, int depth) {
            int here = place;
            for (int i = 0; i < folder.width(); i++) {
                Node node = folder.nodeAt(i);
                if (node == null) {
                    continue;
                }
                if (!ignored.fit(node)) {
                    if (clashesBefore(folder, i, node)) {
                        add(CLASH, node, here);
                    }
                    if (node instanceof Folder inner && depth < MOST_NAMES) {
                        addClashes(inner, here + 1, depth + 1);
                    }
                }
                here += node.whole;
            }
        }

        /** What is IGNORED takes no part: nothing clashes with it. */
        private boolean clashesBefore(Folder folder, int index, Node node) {
            for (int i = 0; i < index; i++) {
                Node before = folder.nodeAt(i);
                if (before != null && before.name.isButForCase(node.name) && !ignored.fit(before)) {
                    return true;
                }
            }
            return false;
        }
    }
}
