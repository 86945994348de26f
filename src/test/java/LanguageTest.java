import java.io.IOException;
import java.lang.reflect.Constructor;
import java.lang.reflect.Field;
import java.lang.reflect.Method;
import java.lang.reflect.Modifier;
import java.nio.file.Files;
import java.nio.file.Path;
import java.util.List;
import java.util.Set;
import java.util.TreeSet;
import java.util.regex.Matcher;
import java.util.regex.Pattern;

/** The rules of LANGUAGE.md that show in the source's text or in the compiled class. */
final class LanguageTest {
    private static final Path SOURCE = Path.of("src/main/java/SourceTree.java");
    private static final Set<String> FACE = Set.of("boolean type(char)", "boolean octet(int)",
        "int put(int,boolean)", "int link(int)", "int folder(int)", "int remove(int)", "int look(int)", "int size()",
        "int byteAt(int)", "int edition(int)", "boolean back(int,int)", "long digest(int)", "int nodes(int)",
        "void ignore()", "int differ(int,int)", "int clashes(int)", "int row(int)", "int path(int,boolean,int)",
        "int changes(int)", "int change(int,int,int)", "boolean seen(int)");
    private static final String[] FORBIDDEN = {"->", "::", "@", "\\bfinally\\b", "\\bsynchronized\\b", "\\bassert\\b",
        "\\btry\\b", "\\bcatch\\b", "\\bpackage\\b", "\\bvar\\b", "String\\[", "\\[\\]\\[", "\\bMath\\.\\w+Exact\\b",
        "\\bSystem\\.(?!arraycopy)", "\\bCharacter\\b", "\\bObject\\b", "\\bhashCode\\b", "\\bstatic \\{",
        "\\+ \"", "\" \\+"};

    private LanguageTest() {
    }

    public static void main(String[] args) throws IOException {
        face();
        nestedClasses();
        text(Files.readString(SOURCE));
        Check.finish("LanguageTest");
    }

    private static String shown(Method method) {
        StringBuilder all = new StringBuilder(method.getReturnType() + " " + method.getName() + "(");
        for (Class<?> type : method.getParameterTypes()) {
            all.append(all.toString().endsWith("(") ? "" : ",").append(type);
        }
        return all.append(")").toString();
    }

    private static void face() {
        Set<String> methods = new TreeSet<>();
        Set<String> names = new TreeSet<>();
        for (Method method : SourceTree.class.getDeclaredMethods()) {
            if (Modifier.isPublic(method.getModifiers())) {
                methods.add(shown(method));
                names.add(method.getName());
            }
        }
        Check.same("rule 1: the face", methods.toString(), new TreeSet<>(FACE).toString());
        for (Method method : SourceTree.class.getDeclaredMethods()) {
            boolean hidden = Modifier.isPrivate(method.getModifiers()) && !names.contains(method.getName());
            Check.same("rule 1: " + method.getName(), hidden || FACE.contains(shown(method)), true);
        }
        for (Field field : SourceTree.class.getDeclaredFields()) {
            boolean open = !Modifier.isPrivate(field.getModifiers());
            Check.same("rule 1: " + field.getName(), open, field.getName().equals("NONE"));
        }
        Constructor<?>[] constructors = SourceTree.class.getDeclaredConstructors();
        Check.same("rule 1: one constructor", constructors.length, 1);
        Check.same("rule 1: it takes nothing", constructors[0].getParameterCount(), 0);
        Check.same("rule 1: public final", SourceTree.class.getModifiers(), Modifier.PUBLIC | Modifier.FINAL);
    }

    private static void nestedClasses() {
        Class<?>[] classes = SourceTree.class.getDeclaredClasses();
        Check.same("rule 11: classes", classes.length <= 12, true);
        for (Class<?> nested : classes) {
            Check.same("rule 1: static " + nested, Modifier.isStatic(nested.getModifiers()), true);
            Check.same("rule 1: private " + nested, Modifier.isPrivate(nested.getModifiers()), true);
            int fields = 0;
            for (Field field : nested.getDeclaredFields()) {
                boolean fixed = Modifier.isStatic(field.getModifiers());
                fields += fixed ? 0 : 1;
                Check.same("rule 5: " + field, !fixed || Modifier.isFinal(field.getModifiers()), true);
            }
            Check.same("rule 11: fields of " + nested, fields <= 20, true);
            for (Method method : nested.getDeclaredMethods()) {
                Check.same("rule 11: " + method, method.getParameterCount() <= 7, true);
            }
        }
    }

    private static void text(String source) {
        String code = source.replaceAll("(?s)/\\*.*?\\*/", "").replaceAll("//[^\n]*", "");
        for (String forbidden : FORBIDDEN) {
            Matcher matcher = Pattern.compile(forbidden).matcher(code);
            Check.same("rules 3 to 6: " + forbidden, matcher.find(), false);
        }
        Matcher imports = Pattern.compile("import ([^;]*);").matcher(code);
        while (imports.find()) {
            boolean listed = List.of("java.util.Arrays", "java.util.ArrayList", "java.util.List")
                .contains(imports.group(1));
            Check.same("rule 4: " + imports.group(1), listed, true);
        }
        lengths(code.split("\n"));
    }

    /** A method ends at the first line that closes it at its own depth. */
    private static void lengths(String[] lines) {
        for (int i = 0; i < lines.length; i++) {
            Matcher head = Pattern.compile("^( {4}| {8})(?=\\S).*\\).*\\{$").matcher(lines[i]);
            if (head.matches()) {
                int end = i;
                while (end < lines.length && !lines[end].equals(head.group(1) + "}")) {
                    end++;
                }
                Check.same("rule 11: length of " + lines[i].trim(), end - i <= 60, true);
            }
        }
    }
}
