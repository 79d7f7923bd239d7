import java.io.IOException;
import java.lang.reflect.Method;
import java.lang.reflect.Modifier;
import java.lang.reflect.Field;
import java.nio.file.Files;
import java.nio.file.Path;
import java.util.Set;
import java.util.TreeSet;
import java.util.regex.Matcher;
import java.util.regex.Pattern;

/** The rules of LANGUAGE.md that can be seen from the file or from the compiled class. Run from the project's root. */
public final class LanguageTest {
    private static final Due DUE = new Due("LanguageTest");

    public static void main(String[] args) throws IOException {
        String source = Files.readString(Path.of("src/main/java/DepotMarch.java"));
        String code = withoutCommentsAndTexts(source);
        forbidden(code);
        statics(code);
        methods(code);
        face();
        names();
        classes();
        DUE.finish();
    }

    private static String withoutCommentsAndTexts(String source) {
        return source.replaceAll("(?s)/\\*.*?\\*/", "").replaceAll("//[^\n]*", "")
                .replaceAll("\"(\\\\.|[^\"\\\\])*\"", "\"\"").replaceAll("'(\\\\.|[^'\\\\])'", "' '");
    }

    private static void forbidden(String code) {
        String[] never = {"\\bthrows?\\b", "\\btry\\b", "\\bcatch\\b", "\\bsynchronized\\b", "\\bassert\\b", "->",
            "::", "\\bpackage\\b", "\\bprotected\\b", "Exact\\b", "\\bThread\\b", "\\bSystem\\.(?!arraycopy\\b)",
            "\\b(float|double)\\b", "\\bstatic\\s*\\{", "\\bhashCode\\b", "\\btoString\\b", "\"\\s*\\+", "\\+\\s*\"",
            "\\bString\\s*\\[", "\\bvar\\b", "\\bimport\\b(?! java\\.util\\.Arrays;)", "[^\\x00-\\x7f]"};
        for (String one : never) {
            DUE.is("places of " + one, Pattern.compile(one).matcher(code).results().count(), 0);
        }
    }

    private static void statics(String code) {
        Pattern field = Pattern.compile("\\bstatic\\s+(?!final|class|interface)[\\w\\[\\]<>]+\\s+\\w+\\s*[=;]");
        DUE.is("static fields that are not final", field.matcher(code).results().count(), 0);
    }

    /** A method begins with its head at four or eight blanks and ends with a brace at the same. */
    private static void methods(String code) {
        String[] lines = code.split("\n", -1);
        Pattern head = Pattern.compile("^( {4}| {8})(?! )[\\w\\[\\]. ]+\\(([^()]*)\\) \\{$");
        for (int i = 0; i < lines.length; i++) {
            Matcher m = head.matcher(lines[i]);
            if (!m.matches() || lines[i].trim().matches("(if|for|while|switch|else).*")) {
                continue;
            }
            int end = i;
            while (end < lines.length && !lines[end].equals(m.group(1) + "}")) {
                end++;
            }
            DUE.is("at most sixty lines: " + lines[i].trim(), end - i < 60, true);
            DUE.is("at most seven parameters: " + lines[i].trim(), m.group(2).split(",").length <= 7, true);
        }
    }

    private static void face() {
        Class<?> c = DepotMarch.class;
        DUE.is("public final", Modifier.isPublic(c.getModifiers()) && Modifier.isFinal(c.getModifiers()), true);
        Set<String> visible = new TreeSet<>();
        for (Method m : c.getDeclaredMethods()) {
            if (!Modifier.isPrivate(m.getModifiers())) {
                boolean open = Modifier.isPublic(m.getModifiers()) && !Modifier.isStatic(m.getModifiers());
                String end = open ? "" : " hidden";
                visible.add(m.getReturnType() + " " + m.getName() + " " + m.getParameterCount() + end);
            }
        }
        for (Field f : c.getDeclaredFields()) {
            if (!Modifier.isPrivate(f.getModifiers())) {
                visible.add(f.getName());
            }
        }
        Set<String> due = new TreeSet<>(Set.of("NONE", "int feed 5", "int end 1", "int party 2", "int orders 1",
                "int fault 1", "int land 1", "boolean storm 2", "int days 1", "int ahead 2", "int tell 2", "int camp 2",
                "int lot 2", "int line 2", "int count 1", "int need 2", "int far 2", "boolean image 1",
                "boolean again 1"));
        DUE.is("the face " + visible, visible.equals(due), true);
        DUE.is("constructors", c.getDeclaredConstructors().length, 1);
    }

    /** No method of the classes inside bears a public one's name either: the rule asks it of private ones. */
    private static void names() {
        Set<String> open = new TreeSet<>();
        for (Method m : DepotMarch.class.getDeclaredMethods()) {
            if (Modifier.isPublic(m.getModifiers())) {
                open.add(m.getName());
            }
        }
        for (Method m : DepotMarch.class.getDeclaredMethods()) {
            if (!Modifier.isPublic(m.getModifiers())) {
                DUE.is(m.getName() + " is no public name", open.contains(m.getName()), false);
            }
        }
        for (Class<?> inside : DepotMarch.class.getDeclaredClasses()) {
            for (Method m : inside.getDeclaredMethods()) {
                DUE.is(inside.getSimpleName() + "." + m.getName(), open.contains(m.getName()), false);
            }
        }
    }

    private static void classes() {
        Class<?>[] all = DepotMarch.class.getDeclaredClasses();
        DUE.is("at most twelve classes", all.length + 1 <= 12, true);
        for (Class<?> c : all) {
            DUE.is(c.getSimpleName() + " is static", Modifier.isStatic(c.getModifiers()), true);
            DUE.is(c.getSimpleName() + " is not public", Modifier.isPublic(c.getModifiers()), false);
            long fields = java.util.Arrays.stream(c.getDeclaredFields())
                    .filter(f -> !Modifier.isStatic(f.getModifiers())).count();
            DUE.is(c.getSimpleName() + ": at most twenty fields", fields <= 20, true);
        }
    }
}
