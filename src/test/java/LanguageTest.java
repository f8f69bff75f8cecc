import java.io.IOException;
import java.lang.reflect.Constructor;
import java.lang.reflect.Field;
import java.lang.reflect.Method;
import java.lang.reflect.Modifier;
import java.nio.file.Files;
import java.nio.file.Path;
import java.util.ArrayList;
import java.util.List;
import java.util.Set;
import java.util.TreeSet;
import java.util.regex.Matcher;
import java.util.regex.Pattern;

/** The face is the one of the document, and the class keeps to what can be seen of the language rules. */
public final class LanguageTest {
    private static final Path SOURCE = Path.of("src/main/java/NightfallVillage.java");
    private static final Path DOCUMENT = Path.of("../shared/DOC.md");
    private static final Checks CHECKS = new Checks("LanguageTest");

    private LanguageTest() {
    }

    public static void main(String[] args) throws IOException {
        String source = Files.readString(SOURCE);
        face(Files.readString(DOCUMENT));
        nothingElseIsOpen();
        code(withoutComments(source));
        sizes(source);
        CHECKS.end();
    }

    private static void face(String document) {
        Matcher call = Pattern.compile("^    public (\\w+) (\\w+)\\(([^)]*)\\)(?: throws ([^;]*))?;$", Pattern.MULTILINE)
            .matcher(document);
        Set<String> due = new TreeSet<>();
        while (call.find()) {
            List<String> types = new ArrayList<>();
            for (String parameter : call.group(3).isEmpty() ? new String[0] : call.group(3).split(", ")) {
                types.add(parameter.split(" ")[0]);
            }
            String thrown = call.group(4) == null ? "" : call.group(4);
            due.add(call.group(1) + " " + call.group(2) + types + " throws " + thrown);
        }
        Set<String> got = new TreeSet<>();
        for (Method method : NightfallVillage.class.getDeclaredMethods()) {
            if (Modifier.isPublic(method.getModifiers())) {
                got.add(method.getReturnType().getSimpleName() + " " + method.getName()
                    + names(method.getParameterTypes()) + " throws "
                    + String.join(", ", names(method.getExceptionTypes())));
            }
        }
        CHECKS.is("the number of methods in the document", due.size(), 39);
        CHECKS.is("the methods", got, due);
    }

    private static List<String> names(Class<?>[] types) {
        List<String> names = new ArrayList<>();
        for (Class<?> type : types) {
            names.add(type.getSimpleName());
        }
        return names;
    }

    private static void nothingElseIsOpen() {
        Class<?> face = NightfallVillage.class;
        CHECKS.is("the class is public and final", face.getModifiers(), Modifier.PUBLIC | Modifier.FINAL);
        Constructor<?>[] constructors = face.getDeclaredConstructors();
        CHECKS.is("one constructor", constructors.length, 1);
        CHECKS.is("a public one", Modifier.isPublic(constructors[0].getModifiers()), true);
        Set<String> open = new TreeSet<>();
        for (Method method : face.getDeclaredMethods()) {
            if (Modifier.isPublic(method.getModifiers())) {
                open.add(method.getName());
            }
        }
        for (Method method : face.getDeclaredMethods()) {
            boolean isOpen = Modifier.isPublic(method.getModifiers());
            CHECKS.is(method + " is public or private", isOpen || Modifier.isPrivate(method.getModifiers()), true);
            CHECKS.is(method + " has a name of its own", isOpen || !open.contains(method.getName()), true);
        }
        fieldsOf(face);
        for (Class<?> inner : face.getDeclaredClasses()) {
            CHECKS.is(inner + " is static and private",
                inner.getModifiers() & (Modifier.STATIC | Modifier.PRIVATE), Modifier.STATIC | Modifier.PRIVATE);
            for (Method method : inner.getDeclaredMethods()) {
                CHECKS.is(method + " has no name of the face", open.contains(method.getName()), false);
            }
            fieldsOf(inner);
        }
        CHECKS.is("at most twelve classes", face.getDeclaredClasses().length < 12, true);
    }

    private static void fieldsOf(Class<?> type) {
        int fields = 0;
        for (Field field : type.getDeclaredFields()) {
            int modifiers = field.getModifiers();
            CHECKS.is(field + " is private", Modifier.isPrivate(modifiers), true);
            CHECKS.is(field + " is no static state", Modifier.isStatic(modifiers) && !Modifier.isFinal(modifiers), false);
            fields += Modifier.isStatic(modifiers) ? 0 : 1;
        }
        CHECKS.is(type + " has at most twenty fields", fields <= 20, true);
    }

    private static String withoutComments(String source) {
        return source.replaceAll("(?s)/\\*.*?\\*/", "").replaceAll("//[^\n]*", "").replaceAll("\"[^\"\n]*\"", "\"\"");
    }

    private static void code(String code) {
        Set<String> imports = new TreeSet<>();
        Matcher line = Pattern.compile("^import (.*);$", Pattern.MULTILINE).matcher(code);
        while (line.find()) {
            imports.add(line.group(1));
        }
        CHECKS.is("imports", imports, Set.of("java.util.Arrays", "java.util.NoSuchElementException"));
        String[] words = {"->", "::", "\\bfinally\\b", "\\bsynchronized\\b", "\\bassert\\b", "\\bcatch\\b", "\\btry\\b",
            "\\bprotected\\b", "\\bpackage\\b", "\\bSystem\\b", "\\bObject\\b", "\\bequals\\b", "\\bhashCode\\b",
            "\\btoString\\b", "\\bvar\\b", "\\bThread\\b", "\\bfor \\(;;", "\\bwhile \\(true", "Exact\\b", "\\bMath\\b",
            "\\bString\\b", "\\bextends\\b", "/ (?!\\(double\\)|\\(float\\))", "%"};
        for (String word : words) {
            CHECKS.is("the code has " + word, Pattern.compile(word).matcher(code).find(), false);
        }
        Matcher thrown = Pattern.compile("throw ([^;]*);").matcher(code);
        Set<String> kinds = new TreeSet<>();
        while (thrown.find()) {
            kinds.add(thrown.group(1));
        }
        CHECKS.is("what is thrown", kinds, Set.of("new IllegalArgumentException(\"\")",
            "new IllegalStateException(\"\")", "new IndexOutOfBoundsException(\"\")",
            "new NoSuchElementException(\"\")", "new UnsupportedOperationException(\"\")"));
        boolean isPlain = code.chars().allMatch(sign -> sign == '\n' || sign >= ' ' && sign < 127);
        CHECKS.is("plain signs alone", isPlain, true);
    }

    private static void sizes(String source) {
        String[] lines = source.split("\n");
        int start = -1;
        for (int i = 0; i < lines.length; i++) {
            CHECKS.is("line " + (i + 1) + " is short", lines[i].length() <= 120, true);
            if (lines[i].matches("    (    )?[a-zA-Z].*\\{") && !lines[i].contains(" class ")) {
                start = i;
            }
            if (start >= 0 && lines[i].matches("    (    )?\\}")) {
                CHECKS.is("the method behind line " + (start + 1) + " is short", i - start <= 60, true);
                start = -1;
            }
        }
    }
}
