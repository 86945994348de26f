import java.util.List;
import java.util.function.Consumer;
import java.util.function.Function;

/**
 * What a refused call leaves as it was: of two objects with the same calls behind them one has the refused call more,
 * and both are asked all that can be asked. Since an object has 512 calls, each question gets a pair of its own.
 */
final class Twins {
    private static final List<Function<Counted, String>> QUESTIONS =
        List.of(Twins::shown, Twins::editions, Twins::trees, Twins::room, Twins::patterns);
    private static final String[] PROBES = {"d/f", "d/g", "d", "l", "q", "k"};

    private Twins() {
    }

    static void same(String what, Consumer<Counted> before, Consumer<Counted> refused) {
        for (Function<Counted, String> question : QUESTIONS) {
            Counted plain = new Counted();
            before.accept(plain);
            Counted tried = new Counted();
            before.accept(tried);
            refused.accept(tried);
            Check.same(what + " changes nothing", question.apply(tried), question.apply(plain));
        }
    }

    /** The file looked at, the rows and the changes. */
    private static String shown(Counted x) {
        StringBuilder all = new StringBuilder("size " + x.size() + " of " + Check.bytes(x) + "rows " + Check.rows(x));
        for (int tree = 0; tree < 4; tree++) {
            all.append(" changes ").append(x.changes(tree)).append(' ').append(Check.changes(x, tree));
        }
        return all.toString();
    }

    private static String editions(Counted x) {
        StringBuilder all = new StringBuilder();
        for (int i = 0; i < 16; i++) {
            all.append(x.digest(i)).append(' ').append(x.nodes(i)).append(' ');
        }
        return all.append(Check.edition(x, 0)).toString();
    }

    /** As editions, if there is room for them, else by what is at the paths that these tests use. */
    private static String trees(Counted x) {
        StringBuilder all = new StringBuilder();
        for (int tree = 0; tree < 4; tree++) {
            int edition = Check.edition(x, tree);
            all.append(x.digest(edition)).append(' ');
            for (int i = 0; edition < 0 && i < PROBES.length; i++) {
                all.append(Check.look(x, tree, PROBES[i])).append(Check.remove(x, tree, PROBES[i])).append(' ');
            }
        }
        return all.toString();
    }

    /** How many characters and numbers TEXT and BYTES still take. */
    static String room(Counted x) {
        int characters = 0;
        while (x.type('x')) {
            characters++;
        }
        int numbers = 0;
        while (x.octet(7)) {
            numbers++;
        }
        return characters + " and " + numbers;
    }

    private static String patterns(Counted x) {
        int more = 0;
        while (Check.ignore(x, "qqq") == 0) {
            more++;
        }
        return "room for " + more;
    }
}
