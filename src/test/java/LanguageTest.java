import java.io.IOException;
import java.lang.reflect.Field;
import java.lang.reflect.Method;
import java.lang.reflect.Modifier;
import java.nio.charset.StandardCharsets;
import java.nio.file.Files;
import java.nio.file.Path;
import java.util.ArrayList;
import java.util.List;
import java.util.Set;
import java.util.regex.Matcher;
import java.util.regex.Pattern;

/** The rules of LANGUAGE.md that can be read from the source, or from the class; rule 1 is FaceTest's. */
public final class LanguageTest {
    private static final Path SOURCE = Path.of("src/main/java/PassDesk.java");
    private static final Set<String> IMPORTS = Set.of("java.util.ArrayList", "java.util.List", "java.util.Arrays",
            "java.util.Iterator", "java.util.NoSuchElementException");
    private static final Set<Class<?>> CONSTANTS = Set.of(int.class, long.class, boolean.class, char.class, String.class);
    private static final int MOST_LINES = 60;
    private static final int MOST_PARAMETERS = 7;
    private static final int MOST_CLASSES = 12;
    private static final int MOST_FIELDS = 20;

    public static void main(String[] args) throws IOException {
        String source = Files.readString(SOURCE, StandardCharsets.UTF_8);
        String code = withoutTexts(source);
        imports(code);
        words(code);
        exceptions(source, code);
        texts(source);
        methodLengths(code);
        List<Class<?>> classes = new ArrayList<>(List.of(PassDesk.class.getDeclaredClasses()));
        classes.add(PassDesk.class);
        Check.same("rule 11: classes", classes.size() <= MOST_CLASSES, true);
        for (Class<?> one : classes) {
            fields(one);
            methods(one);
        }
        Check.end();
    }

    /** Comments go, and texts and signs are empty, so that their words are not taken for the program's. */
    private static String withoutTexts(String source) {
        return source.replaceAll("(?s)/\\*.*?\\*/", "").replaceAll("//[^\n]*", "").replaceAll("\"[^\"\n]*\"", "\"\"")
                .replaceAll("'[^'\n]*'", "''");
    }

    private static void imports(String code) {
        Check.same("no package", code.contains("package "), false);
        Matcher found = Pattern.compile("import ([^;]*);").matcher(code);
        while (found.find()) {
            Check.same("rule 4: import " + found.group(1), IMPORTS.contains(found.group(1)), true);
        }
    }

    private static void words(String code) {
        String[] none = {"->", "::", "\\bfinally\\b", "\\bsynchronized\\b", "\\bassert\\b", "\\bprotected\\b",
            "\\bvolatile\\b", "\\btransient\\b", "\\bnative\\b", "Exact\\(", "\\bsuper\\.", "\\bMath\\.random",
            "\\bSystem\\.(?!arraycopy)", "\\bThread\\b", "\\bObject\\b", "\\bjava\\.(?!util\\.)", "static \\{",
            "\\b(hashCode|equals|toString|getMessage|getClass|printStackTrace)\\(", "\"\" *\\+", "\\+ *\"\"",
            "\\bNaN\\b", "/ *0\\b"};
        for (String word : none) {
            Check.same("rules 2 to 13: " + word, Pattern.compile(word).matcher(code).find(), false);
        }
    }

    private static void exceptions(String source, String code) {
        Matcher thrown = Pattern.compile("\\bthrow\\b[^;]*;").matcher(source);
        Pattern due = Pattern.compile("throw new (IllegalArgument|IllegalState|IndexOutOfBounds)Exception\\(\"[^\"]*\"\\);");
        while (thrown.find()) {
            Check.same("rule 6: " + thrown.group(), due.matcher(thrown.group()).matches(), true);
        }
        Check.same("nothing is caught", Pattern.compile("\\b(try|catch)\\b").matcher(code).find(), false);
    }

    private static void texts(String source) {
        for (int i = 0; i < source.length(); i++) {
            if (source.charAt(i) > 126 || source.charAt(i) < ' ' && source.charAt(i) != '\n') {
                Check.same("rule 4: the sign at " + i, source.charAt(i), ' ');
            }
        }
    }

    /** A method begins with a line that ends with a brace, and ends with a brace as far from the margin. */
    private static void methodLengths(String code) {
        String[] lines = code.split("\n", -1);
        Pattern head = Pattern.compile("( {4}| {8})(?! )[^;=]*\\(.*");
        int begun = -1;
        String margin = "";
        for (int i = 0; i < lines.length; i++) {
            if (begun < 0 && head.matcher(lines[i]).matches()) {
                begun = i;
                margin = lines[i].substring(0, lines[i].length() - lines[i].stripLeading().length());
            } else if (begun >= 0 && lines[i].equals(margin + "}")) {
                Check.same("rule 11, lines of " + lines[begun].strip(), i - begun < MOST_LINES, true);
                begun = -1;
            }
        }
    }

    private static void fields(Class<?> one) {
        int own = 0;
        for (Field field : one.getDeclaredFields()) {
            if (Modifier.isStatic(field.getModifiers())) {
                Check.same("rule 5: " + field, Modifier.isFinal(field.getModifiers())
                        && CONSTANTS.contains(field.getType()), true);
            } else {
                own++;
                Check.same("rule 3: " + field, isOfTheLanguage(field.getType()), true);
            }
        }
        Check.same("rule 11: fields of " + one, own <= MOST_FIELDS, true);
    }

    private static boolean isOfTheLanguage(Class<?> type) {
        if (type.isArray()) {
            return isOfTheLanguage(type.getComponentType());
        }
        return type.isPrimitive() || type == String.class || type == StringBuilder.class || type == ArrayList.class
                || type == List.class || type.getEnclosingClass() == PassDesk.class;
    }

    private static void methods(Class<?> one) {
        for (Method method : one.getDeclaredMethods()) {
            Check.same("rule 11: " + method, method.getParameterCount() <= MOST_PARAMETERS, true);
            for (Class<?> type : method.getParameterTypes()) {
                Check.same("rule 3: " + method, isOfTheLanguage(type), true);
            }
        }
    }
}
