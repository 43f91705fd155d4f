import java.io.IOException;
import java.lang.reflect.Constructor;
import java.lang.reflect.Field;
import java.lang.reflect.Method;
import java.lang.reflect.Modifier;
import java.nio.file.Files;
import java.nio.file.Path;
import java.util.Set;
import java.util.TreeSet;
import java.util.regex.Matcher;
import java.util.regex.Pattern;

/** The face of the document, and the rules of LANGUAGE.md that a look at the source can tell. */
public final class FaceTest {
    private static final Path SOURCE = Path.of("src/main/java/FilterPile.java");
    private static final Path DOCUMENT = Path.of("../shared/DOC.md");

    public static void main(String[] args) throws IOException {
        face();
        constants();
        members();
        source();
        Due.end();
    }

    private static void dueNone(String what, Set<String> found) {
        Due.dueText(what, String.join(" | ", found), "");
    }

    private static String signature(Method m) {
        StringBuilder text = new StringBuilder(m.getReturnType().getName()).append(' ').append(m.getName()).append('(');
        for (Class<?> type : m.getParameterTypes()) {
            text.append(type.getName()).append(' ');
        }
        return text.append(')').toString();
    }

    /** The methods as the document's face writes them, but for the names of parameters. */
    private static void face() throws IOException {
        Set<String> told = new TreeSet<>();
        Matcher m = Pattern.compile("public (int|long) (\\w+)\\(([^)]*)\\);").matcher(Files.readString(DOCUMENT));
        while (m.find()) {
            StringBuilder text = new StringBuilder(m.group(1)).append(' ').append(m.group(2)).append('(');
            for (String parameter : m.group(3).isEmpty() ? new String[0] : m.group(3).split(", ")) {
                text.append(parameter.split(" ")[0]).append(' ');
            }
            told.add(text.append(')').toString());
        }
        Set<String> there = new TreeSet<>();
        for (Method method : FilterPile.class.getDeclaredMethods()) {
            if (!Modifier.isPrivate(method.getModifiers())) {
                there.add(signature(method));
            }
        }
        Due.due("face", told.size(), 49);
        Due.dueText("face", there.toString(), told.toString());
    }

    private static void constants() {
        Due.due("NONE", FilterPile.NONE, -1);
        Due.due("BAD", FilterPile.BAD, -2);
        Due.due("STATE", FilterPile.STATE, -3);
        Due.due("FULL", FilterPile.FULL, -4);
        Due.due("NOT", FilterPile.NOT, -5);
        Due.due("OVER", FilterPile.OVER, -9);
        Due.due("MISSING", FilterPile.MISSING, -11);
        Due.due("PLACE", FilterPile.PLACE, -13);
        Due.due("BELOW", FilterPile.BELOW, -14);
        Due.due("KIND", FilterPile.KIND, -16);
        Due.due("VOID", FilterPile.VOID, Long.MIN_VALUE);
    }

    private static void members() {
        Set<String> wrong = new TreeSet<>();
        Set<String> publicNames = new TreeSet<>();
        for (Method m : FilterPile.class.getDeclaredMethods()) {
            if (Modifier.isPublic(m.getModifiers())) {
                publicNames.add(m.getName());
            }
        }
        int constants = 0;
        for (Field f : FilterPile.class.getDeclaredFields()) {
            if (Modifier.isPublic(f.getModifiers())) {
                constants++;
            } else if (!Modifier.isPrivate(f.getModifiers())) {
                wrong.add("rule 1: " + f);
            }
        }
        Due.due("public constants", constants, 11);
        for (Constructor<?> c : FilterPile.class.getDeclaredConstructors()) {
            if (!Modifier.isPublic(c.getModifiers()) || c.getParameterCount() != 0) {
                wrong.add("rule 1: " + c);
            }
        }
        look(FilterPile.class, publicNames, wrong);
        for (Class<?> inside : FilterPile.class.getDeclaredClasses()) {
            look(inside, publicNames, wrong);
            if (!Modifier.isStatic(inside.getModifiers()) || Modifier.isPublic(inside.getModifiers())) {
                wrong.add("rule 1: " + inside);
            }
        }
        if (FilterPile.class.getDeclaredClasses().length > 12) {
            wrong.add("rule 11: more than twelve classes");
        }
        dueNone("members", wrong);
    }

    private static void look(Class<?> type, Set<String> publicNames, Set<String> wrong) {
        int fields = 0;
        for (Field f : type.getDeclaredFields()) {
            if (!Modifier.isStatic(f.getModifiers())) {
                fields++;
            } else if (!Modifier.isFinal(f.getModifiers()) || f.getType() == double.class || f.getType() == float.class) {
                wrong.add("rule 5: " + f);
            }
        }
        if (fields > 20) {
            wrong.add("rule 11: fields of " + type);
        }
        for (Method m : type.getDeclaredMethods()) {
            if (m.getParameterCount() > 7) {
                wrong.add("rule 11: " + m);
            }
            if (!Modifier.isPublic(m.getModifiers()) && publicNames.contains(m.getName())) {
                wrong.add("rule 1: " + m);
            }
        }
    }

    private static void source() throws IOException {
        String code = Files.readString(SOURCE).replaceAll("(?s)/\\*.*?\\*/", "").replaceAll("//.*", "");
        Set<String> wrong = new TreeSet<>();
        String[] banned = {"\\bimport\\b", "\\bpackage\\b", "->", "::", "\\bcatch\\b", "\\bfinally\\b", "\\bassert\\b",
            "\\bsynchronized\\b", "\\w+Exact\\b", "\\bFloat\\b", "\\bDouble\\b", "\\bSystem\\.(?!arraycopy)\\w+",
            "\\bObject\\b", "\\bthrow\\b", "\" *\\+", "\\+ *\"", "\\bstatic *\\{", "\\bstrictfp\\b", "\\bvar\\b"};
        for (String pattern : banned) {
            Matcher m = Pattern.compile(pattern).matcher(code);
            while (m.find()) {
                wrong.add(m.group());
            }
        }
        for (char sign : code.toCharArray()) {
            if (sign > 127) {
                wrong.add("a sign above 127");
            }
        }
        dueNone("source", wrong);
        dueNone("rule 11: methods of more than sixty lines", longMethods(code));
    }

    private static Set<String> longMethods(String code) {
        Set<String> found = new TreeSet<>();
        String[] lines = code.split("\n");
        for (int n = 0; n < lines.length; n++) {
            Matcher m = Pattern.compile("^( +)(?!.*\\bclass\\b).*\\) \\{$").matcher(lines[n]);
            if (m.find()) {
                int end = n;
                while (end < lines.length - 1 && !lines[end].equals(m.group(1) + "}")) {
                    end++;
                }
                if (end - n > 60) {
                    found.add(lines[n].trim());
                }
            }
        }
        return found;
    }
}
