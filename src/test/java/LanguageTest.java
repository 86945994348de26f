import java.io.IOException;
import java.lang.reflect.Constructor;
import java.lang.reflect.Field;
import java.lang.reflect.Method;
import java.lang.reflect.Modifier;
import java.nio.file.Files;
import java.nio.file.Path;
import java.util.List;
import java.util.Set;
import java.util.TreeSet;
import java.util.regex.Matcher;
import java.util.regex.Pattern;

/** The rules of LANGUAGE.md that show in the source's text or in the compiled class. */
final class LanguageTest {
    private static final Path SOURCE = Path.of("src/main/java/SourceTree.java");
    private static final String BOTH = " throws IllegalArgumentException, IllegalStateException";
    private static final Set<String> FACE = Set.of("boolean type(char)", "boolean octet(int)",
        "int put(int, boolean)" + BOTH, "int link(int)" + BOTH, "int folder(int)" + BOTH, "int remove(int)" + BOTH,
        "int look(int) throws IllegalArgumentException", "int size()", "int byteAt(int)", "int edition(int)" + BOTH,
        "boolean back(int, int)", "long digest(int)", "int nodes(int)", "void ignore()" + BOTH,
        "int differ(int, int)", "int clashes(int)", "int row(int)", "int path(int, boolean, int)",
        "int changes(int)", "int change(int, int, int)", "boolean seen(int)");
    /** The own methods may bear other names; of the library there are these, and no more are needed. */
    private static final Set<String> LIBRARY = Set.of("length", "charAt", "isEmpty", "equals", "indexOf", "substring",
        "append", "setLength", "toString", "min", "copyOf");
    private static final String[] FORBIDDEN = {"->", "::", "@", "\\bfinally\\b", "\\bsynchronized\\b", "\\bassert\\b",
        "\\btry\\b", "\\bcatch\\b", "\\bpackage\\b", "\\bvar\\b", "String\\[", "\\[\\]\\[", "\\bMath\\.\\w+Exact\\b",
        "\\bSystem\\.(?!arraycopy)", "\\bCharacter\\b", "\\bObject\\b", "\\bhashCode\\b", "\\bstatic \\{",
        "\\+ \"", "\" \\+"};

    private LanguageTest() {
    }

    public static void main(String[] args) throws IOException {
        Set<String> names = new TreeSet<>();
        for (String method : FACE) {
            names.add(method.replaceAll("\\w+ (\\w+)\\(.*", "$1"));
        }
        face(names);
        fieldsAndConstructor();
        nestedClasses(names);
        text(Files.readString(SOURCE));
        Check.finish("LanguageTest");
    }

    private static String shown(Method method) {
        String types = listed(method.getParameterTypes());
        String thrown = listed(method.getExceptionTypes());
        return method.getReturnType() + " " + method.getName() + "(" + types + ")"
            + (thrown.isEmpty() ? "" : " throws " + thrown);
    }

    private static String listed(Class<?>[] types) {
        StringBuilder all = new StringBuilder();
        for (Class<?> type : types) {
            all.append(all.length() == 0 ? "" : ", ").append(type.getSimpleName());
        }
        return all.toString();
    }

    private static void face(Set<String> names) {
        Set<String> methods = new TreeSet<>();
        for (Method method : SourceTree.class.getDeclaredMethods()) {
            if (method.getModifiers() == Modifier.PUBLIC) {
                methods.add(shown(method));
            } else {
                boolean hidden = Modifier.isPrivate(method.getModifiers()) && !names.contains(method.getName());
                Check.same("rule 1: " + method.getName(), hidden, true);
            }
        }
        Check.same("rule 1: the face", methods.toString(), new TreeSet<>(FACE).toString());
        Check.same("rule 1: public final", SourceTree.class.getModifiers(), Modifier.PUBLIC | Modifier.FINAL);
        Check.same("rule 1: nothing inherited", SourceTree.class.getSuperclass().getName(), "java.lang.Object");
        Check.same("rule 1: no interfaces", SourceTree.class.getInterfaces().length, 0);
    }

    private static void fieldsAndConstructor() {
        String open = "";
        for (Field field : SourceTree.class.getDeclaredFields()) {
            open += Modifier.isPrivate(field.getModifiers()) ? "" : field + ";";
        }
        Check.same("rule 1: the constant", open, "public static final int SourceTree.NONE;");
        Constructor<?>[] constructors = SourceTree.class.getDeclaredConstructors();
        Check.same("rule 1: one constructor", constructors.length, 1);
        Check.same("rule 1: it takes and throws nothing", constructors[0].toGenericString(), "public SourceTree()");
    }

    private static void nestedClasses(Set<String> names) {
        Class<?>[] classes = SourceTree.class.getDeclaredClasses();
        Check.same("rule 11: classes", classes.length <= 12, true);
        for (Class<?> nested : classes) {
            Check.same("rule 1: static " + nested, Modifier.isStatic(nested.getModifiers()), true);
            Check.same("rule 1: private " + nested, Modifier.isPrivate(nested.getModifiers()), true);
            int fields = 0;
            for (Field field : nested.getDeclaredFields()) {
                boolean fixed = Modifier.isStatic(field.getModifiers());
                fields += fixed ? 0 : 1;
                Check.same("rule 5: " + field, !fixed || Modifier.isFinal(field.getModifiers()), true);
            }
            Check.same("rule 11: fields of " + nested, fields <= 20, true);
            for (Method method : nested.getDeclaredMethods()) {
                Check.same("rule 11: " + method, method.getParameterCount() <= 7, true);
                Check.same("rule 1: " + method, names.contains(method.getName()), false);
            }
        }
    }

    private static void text(String source) {
        String code = source.replaceAll("(?s)/\\*.*?\\*/", "").replaceAll("//[^\n]*", "");
        for (String forbidden : FORBIDDEN) {
            Matcher matcher = Pattern.compile(forbidden).matcher(code);
            Check.same("rules 3 to 6: " + forbidden, matcher.find(), false);
        }
        Matcher imports = Pattern.compile("import ([^;]*);").matcher(code);
        while (imports.find()) {
            boolean listed = List.of("java.util.Arrays", "java.util.ArrayList", "java.util.List")
                .contains(imports.group(1));
            Check.same("rule 4: " + imports.group(1), listed, true);
        }
        libraryCalls(code);
        lengths(code.split("\n"));
    }

    private static void libraryCalls(String code) {
        Set<String> own = new TreeSet<>();
        for (Class<?> nested : SourceTree.class.getDeclaredClasses()) {
            for (Method method : nested.getDeclaredMethods()) {
                own.add(method.getName());
            }
        }
        Matcher calls = Pattern.compile("\\.\\s*(\\w+)\\(").matcher(code);
        while (calls.find()) {
            String name = calls.group(1);
            Check.same("rule 4: " + name, own.contains(name) || LIBRARY.contains(name), true);
        }
    }

    /** A method ends at the first line that closes it at its own depth. */
    private static void lengths(String[] lines) {
        for (int i = 0; i < lines.length; i++) {
            Matcher head = Pattern.compile("^( {4}| {8})(?=\\S).*\\).*\\{$").matcher(lines[i]);
            if (head.matches()) {
                int end = i;
                while (end < lines.length && !lines[end].equals(head.group(1) + "}")) {
                    end++;
                }
                Check.same("rule 11: length of " + lines[i].trim(), end - i <= 60, true);
            }
        }
    }
}
