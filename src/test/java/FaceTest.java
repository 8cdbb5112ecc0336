import java.io.IOException;
import java.lang.reflect.Constructor;
import java.lang.reflect.Field;
import java.lang.reflect.Method;
import java.lang.reflect.Modifier;
import java.nio.file.Files;
import java.nio.file.Path;
import java.util.TreeSet;
import java.util.regex.Matcher;
import java.util.regex.Pattern;

/** The class has the face of the document and no more, and its text keeps to some rules that a text shows. */
public final class FaceTest {
    private static final Check check = new Check("FaceTest");

    public static void main(String[] args) throws IOException {
        face();
        declarations();
        nothingElse();
        text();
        check.end();
    }

    private static String faceOfDocument() throws IOException {
        String document = Files.readString(Path.of("../shared/DOC.md"));
        String part = document.substring(document.indexOf("public final class"));
        return part.substring(0, part.indexOf("```"));
    }

    /** Each declaration stands in the class as it stands in the document, with the names of its parameters. */
    private static void declarations() throws IOException {
        String text = Files.readString(Path.of("src/main/java/Vaultgarden.java")).replaceAll("\\s+", " ");
        int found = 0;
        for (String line : faceOfDocument().split("\n")) {
            if (line.endsWith(");") || line.endsWith("Exception;")) {
                found++;
                String declared = line.trim().replace(";", " {");
                check.due("the class has: " + declared, text.contains(" " + declared), true);
            }
        }
        check.due("declarations of the document", found > 40, true);
    }

    private static void face() throws IOException {
        TreeSet<String> want = new TreeSet<>();
        String part = faceOfDocument();
        Matcher line = Pattern.compile("public (\\w+) (\\w+)\\(([^)]*)\\)(?: throws ([\\w, ]+))?;").matcher(part);
        while (line.find()) {
            String types = line.group(3).replaceAll("(\\w+) \\w+", "$1").replace(" ", "");
            String exceptions = line.group(4) == null ? "" : line.group(4).replace(" ", "");
            want.add(line.group(1) + " " + line.group(2) + "(" + types + ") " + exceptions);
        }
        check.due("methods of the document", want.size() > 40, true);
        TreeSet<String> got = new TreeSet<>();
        for (Method method : Vaultgarden.class.getDeclaredMethods()) {
            if (Modifier.isPublic(method.getModifiers()) && !method.isSynthetic()) {
                got.add(method.getReturnType().getSimpleName() + " " + method.getName() + "("
                        + names(method.getParameterTypes()) + ") " + names(method.getExceptionTypes()));
            }
        }
        check.due("the face", got, want);
    }

    private static String names(Class<?>[] types) {
        StringBuilder names = new StringBuilder();
        for (Class<?> type : types) {
            names.append(names.length() == 0 ? "" : ",").append(type.getSimpleName());
        }
        return names.toString();
    }

    private static void nothingElse() {
        TreeSet<String> publicNames = new TreeSet<>();
        for (Method method : Vaultgarden.class.getDeclaredMethods()) {
            if (Modifier.isPublic(method.getModifiers())) {
                publicNames.add(method.getName());
            }
        }
        for (Method method : Vaultgarden.class.getDeclaredMethods()) {
            int modifiers = method.getModifiers();
            if (!Modifier.isPublic(modifiers) && !method.isSynthetic()) {
                check.due(method + " is private", Modifier.isPrivate(modifiers), true);
                check.due(method + " has a public one's name", publicNames.contains(method.getName()), false);
            }
        }
        for (Field field : Vaultgarden.class.getDeclaredFields()) {
            check.due(field + " is private", Modifier.isPrivate(field.getModifiers()), true);
            boolean isConstant = Modifier.isFinal(field.getModifiers());
            check.due(field + " is no static state", Modifier.isStatic(field.getModifiers()) && !isConstant, false);
        }
        Constructor<?>[] constructors = Vaultgarden.class.getDeclaredConstructors();
        check.due("constructors", constructors.length, 1);
        check.due("its parameters", constructors[0].getParameterCount(), 0);
        check.due("it is public", Modifier.isPublic(constructors[0].getModifiers()), true);
        check.due("the class is final", Modifier.isFinal(Vaultgarden.class.getModifiers()), true);
        for (Class<?> inner : Vaultgarden.class.getDeclaredClasses()) {
            int modifiers = inner.getModifiers();
            check.due(inner + " is static", Modifier.isStatic(modifiers), true);
            check.due(inner + " is hidden", Modifier.isPublic(modifiers) || Modifier.isProtected(modifiers), false);
            check.due(inner + " has few fields", inner.getDeclaredFields().length <= 20, true);
        }
        check.due("some twelve classes", Vaultgarden.class.getDeclaredClasses().length <= 12, true);
    }

    private static void text() throws IOException {
        String text = Files.readString(Path.of("src/main/java/Vaultgarden.java"));
        String[] ruledOut = {"->", "::", "Exact", "\\bcatch\\b", "\\bfinally\\b", "\\bsynchronized\\b", "\\bassert\\b",
            "static \\{", "\\bpackage\\b [a-z.]+;", "import (?!java\\.util\\.NoSuchElementException;)", "System\\.(?!array)",
            "Math\\.(?!floorMod)", "hashCode", "\\bequals\\b", "[^\\x00-\\x7f]", "\" \\+|\\+ \""};
        for (String pattern : ruledOut) {
            check.due("the text has " + pattern, Pattern.compile(pattern).matcher(text).find(), false);
        }
    }
}
