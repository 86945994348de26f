import java.util.ArrayDeque;
import java.util.ArrayList;
import java.util.Arrays;
import java.util.HashSet;
import java.util.List;
import java.util.Locale;
import java.util.Map;
import java.util.Set;
import java.util.TreeMap;

/** The document again, in the plainest form and with the whole Java library: the answers that are due. */
final class Model {
    /** A node: a folder if it has nodes, a link if it has a target, else a file. */
    static final class Item {
        TreeMap<String, Item> nodes;
        String target;
        List<Integer> bytes;
        boolean executable;

        static Item folder() {
            Item item = new Item();
            item.nodes = new TreeMap<>();
            return item;
        }

        Item copy() {
            Item item = new Item();
            item.target = target;
            item.bytes = bytes;
            item.executable = executable;
            if (nodes != null) {
                item.nodes = new TreeMap<>();
                for (Map.Entry<String, Item> e : nodes.entrySet()) {
                    item.nodes.put(e.getKey(), e.getValue().copy());
                }
            }
            return item;
        }

        int count() {
            int sum = 0;
            if (nodes != null) {
                for (Item item : nodes.values()) {
                    sum += 1 + item.count();
                }
            }
            return sum;
        }

        String shown() {
            if (nodes != null) {
                StringBuilder all = new StringBuilder("(");
                for (Map.Entry<String, Item> e : nodes.entrySet()) {
                    all.append(e.getKey()).append('=').append(e.getValue().shown()).append(' ');
                }
                return all.append(')').toString();
            }
            return target != null ? ">" + target : executable + bytes.toString();
        }

        long digest() {
            long h = nodes != null ? 29 : target != null ? 23 : executable ? 19 : 17;
            if (nodes != null) {
                for (Map.Entry<String, Item> e : nodes.entrySet()) {
                    for (char c : e.getKey().toCharArray()) {
                        h = 1000003 * h + c;
                    }
                    h = 1000003 * h + e.getValue().digest();
                }
            } else if (target != null) {
                for (char c : target.toCharArray()) {
                    h = 1000003 * h + c;
                }
            } else {
                for (int b : bytes) {
                    h = 1000003 * h + (b + 1);
                }
            }
            return h;
        }
    }

    private static final class Row {
        int kind;
        String path;
        String other = "";
        Item item;
    }

    private String text = "";
    private List<Integer> octets = new ArrayList<>();
    private final Item[] trees = {Item.folder(), Item.folder(), Item.folder(), Item.folder()};
    private final List<List<String>> changed = new ArrayList<>();
    private final boolean[] all = new boolean[4];
    private final List<Item> editions = new ArrayList<>();
    private final List<String> patterns = new ArrayList<>();
    private List<Row> rows = new ArrayList<>();
    private List<Integer> looked;

    Model() {
        for (int i = 0; i < 4; i++) {
            changed.add(new ArrayList<>());
        }
    }

    boolean type(char c) {
        if (c < 32 || c > 126 || text.length() == 120) {
            return false;
        }
        text += c;
        return true;
    }

    boolean octet(int b) {
        if (b < 0 || b > 255 || octets.size() == 40) {
            return false;
        }
        octets.add(b);
        return true;
    }

    private String take() {
        String taken = text;
        text = "";
        octets = new ArrayList<>();
        return taken;
    }

    private static boolean isPath(String text) {
        String[] names = text.split("/", -1);
        for (String name : names) {
            if (!name.matches("[a-zA-Z0-9._-]{1,12}") || name.matches("\\.\\.?")) {
                return false;
            }
        }
        return names.length <= 8;
    }

    private static boolean isTree(int tree) {
        return tree >= 0 && tree <= 3;
    }

    int put(int tree, boolean executable) {
        Item file = new Item();
        file.bytes = octets;
        file.executable = executable;
        return place(tree, take(), file);
    }

    int link(int tree) {
        String[] parts = take().split(">", -1);
        if (parts.length != 2 || !isPath(parts[1])) {
            return Check.REFUSED_ARGUMENT;
        }
        Item link = new Item();
        link.target = parts[1];
        return place(tree, parts[0], link);
    }

    int folder(int tree) {
        return place(tree, take(), Item.folder());
    }

    private int place(int tree, String path, Item item) {
        if (!isTree(tree) || !isPath(path)) {
            return Check.REFUSED_ARGUMENT;
        }
        Item root = trees[tree].copy();
        Item here = root;
        String[] names = path.split("/");
        for (int i = 0; i < names.length - 1; i++) {
            here.nodes.putIfAbsent(names[i], Item.folder());
            here = here.nodes.get(names[i]);
            if (here.nodes == null) {
                return Check.REFUSED_STATE;
            }
        }
        Item there = here.nodes.get(names[names.length - 1]);
        if (there != null && (there.nodes != null) != (item.nodes != null)) {
            return Check.REFUSED_STATE;
        }
        if (there == null || there.nodes == null) {
            here.nodes.put(names[names.length - 1], item);
        }
        return root.count() > 100 ? Check.REFUSED_STATE : become(tree, root, path);
    }

    private int become(int tree, Item root, String path) {
        int more = root.count() - trees[tree].count();
        if (!root.shown().equals(trees[tree].shown())) {
            changed.get(tree).add(path);
        }
        trees[tree] = root;
        return more;
    }

    int remove(int tree) {
        String path = take();
        if (!isTree(tree) || !isPath(path)) {
            return Check.REFUSED_ARGUMENT;
        }
        Item root = trees[tree].copy();
        Item here = root;
        String[] names = path.split("/");
        for (int i = 0; i < names.length; i++) {
            if (here == null || here.nodes == null || !here.nodes.containsKey(names[i])) {
                return Check.REFUSED_STATE;
            }
            if (i == names.length - 1) {
                here.nodes.remove(names[i]);
            }
            here = here.nodes.get(names[i]);
        }
        return -become(tree, root, path);
    }

    int look(int tree) {
        String path = take();
        if (!isTree(tree) || !isPath(path)) {
            return Check.REFUSED_ARGUMENT;
        }
        ArrayDeque<String> left = new ArrayDeque<>(Arrays.asList(path.split("/")));
        Item here = trees[tree];
        int links = 0;
        while (!left.isEmpty()) {
            here = here.nodes == null ? null : here.nodes.get(left.removeFirst());
            if (here == null) {
                return 0;
            }
            if (here.target != null) {
                links++;
                if (links == 17) {
                    return 4;
                }
                List<String> names = Arrays.asList(here.target.split("/"));
                for (int i = names.size() - 1; i >= 0; i--) {
                    left.addFirst(names.get(i));
                }
                here = trees[tree];
            }
        }
        if (here.nodes != null) {
            return 1;
        }
        looked = here.bytes;
        return here.executable ? 3 : 2;
    }

    int size() {
        return looked == null ? -1 : looked.size();
    }

    int byteAt(int k) {
        return looked == null || k < 0 || k >= looked.size() ? -1 : looked.get(k);
    }

    int edition(int tree) {
        if (!isTree(tree)) {
            return Check.REFUSED_ARGUMENT;
        }
        if (editions.size() == 16) {
            return Check.REFUSED_STATE;
        }
        editions.add(trees[tree].copy());
        return editions.size() - 1;
    }

    private boolean isEdition(int edition) {
        return edition >= 0 && edition < editions.size();
    }

    boolean back(int tree, int edition) {
        if (!isTree(tree) || !isEdition(edition)) {
            return false;
        }
        Item old = editions.get(edition).copy();
        all[tree] |= !old.shown().equals(trees[tree].shown());
        trees[tree] = old;
        return true;
    }

    long digest(int edition) {
        return isEdition(edition) ? editions.get(edition).digest() : 0;
    }

    private boolean isIgnored(String name) {
        for (String pattern : patterns) {
            if (name.matches(pattern.replace(".", "\\.").replaceAll("\\*+", ".*"))) {
                return true;
            }
        }
        return false;
    }

    /** An edition without what is IGNORED. */
    private Item visible(Item folder) {
        Item rest = folder.copy();
        rest.nodes.keySet().removeIf(this::isIgnored);
        rest.nodes.replaceAll((name, item) -> item.nodes == null ? item : visible(item));
        return rest;
    }

    int nodes(int edition) {
        return isEdition(edition) ? visible(editions.get(edition)).count() : -1;
    }

    int ignore() {
        String pattern = take();
        if (!pattern.matches("[a-zA-Z0-9._*-]{1,12}") || pattern.matches("\\.\\.?")) {
            return Check.REFUSED_ARGUMENT;
        }
        if (patterns.size() == 4) {
            return Check.REFUSED_STATE;
        }
        patterns.add(pattern);
        return 0;
    }

    private static int order(String a, String b) {
        return Arrays.compare(a.split("/"), b.split("/"));
    }

    private static void leaves(Item folder, String before, Map<String, Item> into) {
        for (Map.Entry<String, Item> e : folder.nodes.entrySet()) {
            if (e.getValue().nodes == null) {
                into.put(before + e.getKey(), e.getValue());
            } else {
                leaves(e.getValue(), before + e.getKey() + "/", into);
            }
        }
    }

    private static int kind(Item a, Item b) {
        if (a == null || b == null) {
            return a == null ? 0 : 1;
        }
        if (a.shown().equals(b.shown())) {
            return -1;
        }
        if (a.target != null || b.target != null) {
            return 4;
        }
        return a.bytes.equals(b.bytes) ? 3 : 2;
    }

    int differ(int first, int second) {
        rows = new ArrayList<>();
        if (!isEdition(first) || !isEdition(second)) {
            return -1;
        }
        Map<String, Item> before = new TreeMap<>(Model::order);
        Map<String, Item> after = new TreeMap<>(Model::order);
        leaves(visible(editions.get(first)), "", before);
        leaves(visible(editions.get(second)), "", after);
        Map<String, Item> both = new TreeMap<>(Model::order);
        both.putAll(after);
        both.putAll(before);
        for (String path : both.keySet()) {
            Row row = new Row();
            row.kind = kind(before.get(path), after.get(path));
            row.path = path;
            row.item = both.get(path);
            if (row.kind >= 0) {
                rows.add(row);
            }
        }
        rename();
        return rows.size();
    }

    private void rename() {
        for (Row gone : new ArrayList<>(rows)) {
            for (Row come : new ArrayList<>(rows)) {
                if (gone.kind == 1 && come.kind == 0 && gone.item.target == null
                        && gone.item.shown().equals(come.item.shown())) {
                    gone.kind = 5;
                    gone.other = come.path;
                    rows.remove(come);
                }
            }
        }
    }

    int clashes(int edition) {
        rows = new ArrayList<>();
        if (!isEdition(edition)) {
            return -1;
        }
        clash(visible(editions.get(edition)), "");
        return rows.size();
    }

    private void clash(Item folder, String before) {
        Set<String> small = new HashSet<>();
        for (Map.Entry<String, Item> e : folder.nodes.entrySet()) {
            if (!small.add(e.getKey().toLowerCase(Locale.ROOT))) {
                Row row = new Row();
                row.kind = 6;
                row.path = before + e.getKey();
                rows.add(row);
            }
            if (e.getValue().nodes != null) {
                clash(e.getValue(), before + e.getKey() + "/");
            }
        }
    }

    int row(int i) {
        return i < 0 || i >= rows.size() ? -1 : rows.get(i).kind;
    }

    int path(int i, boolean second, int k) {
        return i < 0 || i >= rows.size() ? 0 : letter(second ? rows.get(i).other : rows.get(i).path, k);
    }

    private static int letter(String text, int k) {
        return k < 0 || k >= text.length() ? 0 : text.charAt(k);
    }

    int changes(int tree) {
        if (!isTree(tree)) {
            return -1;
        }
        return all[tree] || changed.get(tree).size() > 12 ? -2 : changed.get(tree).size();
    }

    int change(int tree, int i, int k) {
        if (changes(tree) < 0 || i < 0 || i >= changes(tree)) {
            return 0;
        }
        return letter(changed.get(tree).get(i), k);
    }

    boolean seen(int tree) {
        if (!isTree(tree)) {
            return false;
        }
        changed.get(tree).clear();
        all[tree] = false;
        return true;
    }
}
