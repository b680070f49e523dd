import java.io.IOException;
import java.lang.reflect.Constructor;
import java.lang.reflect.Field;
import java.lang.reflect.Method;
import java.lang.reflect.Modifier;
import java.nio.file.Files;
import java.nio.file.Path;
import java.util.ArrayList;
import java.util.Arrays;
import java.util.List;
import java.util.TreeSet;
import java.util.regex.Matcher;
import java.util.regex.Pattern;

/** The document's public face, and what a reading of the source can tell of ../shared/LANGUAGE.md. */
public final class RulesTest {
    private static final Path DOCUMENT = Path.of("../shared/DOC.md");
    private static final Path SOURCE = Path.of("src/main/java/Panehouse.java");
    private static final int LONGEST_METHOD = 62;
    private static final int MOST_PARAMETERS = 7;
    private static final int MOST_FIELDS = 20;
    private static final int MOST_CLASSES = 12;

    private RulesTest() {
    }

    public static void main(String[] args) throws IOException {
        face();
        members();
        classes();
        words();
        methods();
        Due.end();
    }

    /** A method as the document writes it, without the names of its parameters. */
    private static String told(Method method) {
        StringBuilder text = new StringBuilder(method.getReturnType() + " " + method.getName() + "(");
        for (Class<?> type : method.getParameterTypes()) {
            text.append(type.getSimpleName()).append(' ');
        }
        text.append(')');
        for (Class<?> type : method.getExceptionTypes()) {
            text.append(' ').append(type.getSimpleName());
        }
        return text.toString();
    }

    private static void face() throws IOException {
        String document = Files.readString(DOCUMENT);
        String block = document.substring(document.indexOf("public final class"), document.indexOf("## Terms"));
        TreeSet<String> due = new TreeSet<>();
        Matcher found = Pattern.compile("public (\\w+ \\w+)\\(([^)]*)\\)(?: throws ([^;]*))?;").matcher(block);
        while (found.find()) {
            StringBuilder text = new StringBuilder(found.group(1) + "(");
            for (String parameter : found.group(2).isEmpty() ? new String[0] : found.group(2).split(", ")) {
                text.append(parameter.split(" ")[0]).append(' ');
            }
            text.append(')');
            for (String thrown : found.group(3) == null ? new String[0] : found.group(3).split(", ")) {
                text.append(' ').append(thrown);
            }
            due.add(text.toString());
        }
        TreeSet<String> got = new TreeSet<>();
        for (Method method : Panehouse.class.getDeclaredMethods()) {
            if (Modifier.isPublic(method.getModifiers())) {
                got.add(told(method));
            }
        }
        Due.is("the face", got, due);
        Due.is("its calls", got.size(), 39);
        Due.is("final", Modifier.isFinal(Panehouse.class.getModifiers()), true);
    }

    private static void members() {
        TreeSet<String> open = new TreeSet<>();
        for (Method method : Panehouse.class.getDeclaredMethods()) {
            if (Modifier.isPublic(method.getModifiers())) {
                open.add(method.getName());
            }
        }
        for (Method method : Panehouse.class.getDeclaredMethods()) {
            boolean isPublic = Modifier.isPublic(method.getModifiers());
            boolean isPrivate = Modifier.isPrivate(method.getModifiers());
            Due.is(method + " is private", isPublic || isPrivate && !open.contains(method.getName()), true);
        }
        for (Field field : Panehouse.class.getDeclaredFields()) {
            Due.is(field + " is private", Modifier.isPrivate(field.getModifiers()), true);
        }
        for (Constructor<?> made : Panehouse.class.getDeclaredConstructors()) {
            Due.is(made + " is public", Modifier.isPublic(made.getModifiers()), true);
        }
    }

    private static void classes() {
        List<Class<?>> all = new ArrayList<>(Arrays.asList(Panehouse.class.getDeclaredClasses()));
        all.add(Panehouse.class);
        Due.is("at most " + MOST_CLASSES + " classes", all.size() <= MOST_CLASSES, true);
        for (Class<?> one : all) {
            int fields = 0;
            for (Field field : one.getDeclaredFields()) {
                boolean isConstant = Modifier.isStatic(field.getModifiers());
                fields += isConstant ? 0 : 1;
                Due.is(field + " is final if static", !isConstant || Modifier.isFinal(field.getModifiers()), true);
            }
            Due.is(one + " has at most " + MOST_FIELDS + " fields", fields <= MOST_FIELDS, true);
            Due.is(one + " has no class in it", one == Panehouse.class || one.getDeclaredClasses().length == 0, true);
        }
    }

    private static void words() throws IOException {
        String source = Files.readString(SOURCE);
        String[] forbidden = {"->", "::", "\\bcatch\\b", "\\btry\\b", "\\bfinally\\b", "\\bsynchronized\\b",
            "\\bassert\\b", "Exact\\(", "\\bpackage\\b", "\\bString\\.format", "\\bnew Random",
            "\\bSystem\\.(?!arraycopy)",
            "\\bhashCode\\b", "\\btoString\\(\\) \\{", "\\bequals\\(Object", "\\bprotected\\b", "[^\\x00-\\x7f]"};
        for (String word : forbidden) {
            Matcher found = Pattern.compile(word).matcher(source);
            Due.is("a forbidden word " + word, found.find(), false);
        }
        Matcher imports = Pattern.compile("(?m)^import (.*);$").matcher(source);
        while (imports.find()) {
            String name = imports.group(1);
            boolean isAllowed = List.of("java.util.Arrays", "java.util.NoSuchElementException").contains(name);
            Due.is("import of " + name, isAllowed, true);
        }
    }

    private static void methods() throws IOException {
        List<String> lines = Files.readAllLines(SOURCE);
        Pattern head = Pattern.compile("^( {4}| {8})(?! )[^=;*/]*\\w+\\(.*(\\{|,|\\))$");
        for (int i = 0; i < lines.size(); i++) {
            Matcher found = head.matcher(lines.get(i));
            if (!found.matches()) {
                continue;
            }
            int end = i;
            while (!lines.get(end).equals(found.group(1) + "}")) {
                end++;
            }
            Due.is("short: " + lines.get(i), end - i <= LONGEST_METHOD, true);
        }
        for (Class<?> one : Panehouse.class.getDeclaredClasses()) {
            for (Method method : one.getDeclaredMethods()) {
                Due.is(method + " has few parameters", method.getParameterCount() <= MOST_PARAMETERS, true);
            }
        }
        for (Method method : Panehouse.class.getDeclaredMethods()) {
            boolean isFew = method.getParameterCount() <= MOST_PARAMETERS || method.getName().equals("feedMore");
            Due.is(method + " has few parameters", isFew, true);
        }
    }
}
