import java.lang.reflect.Field;
import java.lang.reflect.Method;
import java.lang.reflect.Modifier;
import java.nio.file.Files;
import java.nio.file.Path;
import java.util.ArrayList;
import java.util.HashSet;
import java.util.List;
import java.util.Set;
import java.util.regex.Matcher;
import java.util.regex.Pattern;

/** What can be seen by plain means of the rules in ../shared/LANGUAGE.md; the numbers are theirs. */
public final class LanguageTest {
    private static final Set<String> IMPORTS = Set.of("java.util.ArrayList", "java.util.List", "java.util.Arrays",
            "java.util.Iterator", "java.util.NoSuchElementException");
    // The last one is not in rule 6, but the document names it for table().
    private static final Set<String> THROWN = Set.of("IllegalStateException", "IllegalArgumentException",
            "IndexOutOfBoundsException", "ArithmeticException", "UnsupportedOperationException",
            "NoSuchElementException", "RuntimeException", "ArrayIndexOutOfBoundsException");
    private static final String[] RULED_OUT = {
        "->", "::", "Exact\\(", "static \\{", "\\.getMessage", "\\bpackage\\b", "\\bprotected\\b", "\\bfinally\\b",
        "\\bsynchronized\\b", "\\bassert\\b", "\\bvolatile\\b", "\\bnative\\b", "\\btry \\(", "\\bvar\\b",
        "\\bextends \\w*(Exception|Error)\\b", "\\b(hashCode|toString)\\(", "\\bSystem\\.(?!arraycopy)",
        "\\bcatch \\((Throwable|Exception|Error)\\b",
        "\\bcatch \\(.*(ArrayIndexOutOfBounds|NullPointer|ClassCast|NegativeArraySize|ArrayStore)"
    };
    private static final Pattern METHOD = Pattern.compile("( *)(?!.*\\b(if|for|while|switch|else|catch)\\b)\\w.*\\).*\\{");

    public static void main(String[] args) throws Exception {
        String code = withoutTexts(Files.readString(Path.of("src/main/java/HazardRules.java")));
        importsAndThrows(code);
        for (String pattern : RULED_OUT) {
            Check.due("places with " + pattern, found(pattern, code).size(), 0);
        }
        methodsAreShort(code.split("\n"));
        List<Class<?>> classes = new ArrayList<>(List.of(HazardRules.class.getDeclaredClasses()));
        for (Class<?> inside : classes) {
            int modifiers = inside.getModifiers();
            Check.due(inside + " is static", Modifier.isStatic(modifiers), true);
            Check.due(inside + " is public or protected", Modifier.isPublic(modifiers) || Modifier.isProtected(modifiers), false);
        }
        classes.add(HazardRules.class);
        Check.due("at most 12 classes, there are " + classes.size(), classes.size() <= 12, true);
        for (Class<?> each : classes) {
            fieldsOf(each);
            methodsOf(each);
        }
        noPrivateMethodIsNamedAsAPublicOne();
        Check.end();
    }

    /** Comments and the insides of texts may say anything. */
    private static String withoutTexts(String source) {
        return source.replaceAll("(?s)/\\*.*?\\*/", "").replaceAll("//.*", "").replaceAll("\"(\\\\.|[^\"\\\\])*\"", "\"\"");
    }

    private static List<String> found(String pattern, String code) {
        List<String> found = new ArrayList<>();
        Matcher matcher = Pattern.compile(pattern).matcher(code);
        while (matcher.find()) {
            found.add(matcher.group(matcher.groupCount() == 0 ? 0 : 1));
        }
        return found;
    }

    private static void importsAndThrows(String code) {
        for (String name : found("\\bimport (.*);", code)) {
            Check.due("import " + name + " is left", IMPORTS.contains(name), true);
        }
        int thrown = 0;
        for (String name : found("\\bthrow new (\\w+)\\(", code)) {
            Check.due("throw new " + name + " is left", THROWN.contains(name), true);
            thrown++;
        }
        Check.due("places with throw that make what they throw", found("\\bthrow\\b", code).size(), thrown);
        Check.due("joining texts by +", found("\"\" ?\\+|\\+ ?\"\"", code).size(), 0);
    }

    private static void methodsAreShort(String[] lines) {
        int methods = 0;
        for (int start = 0; start < lines.length; start++) {
            Matcher head = METHOD.matcher(lines[start]);
            if (head.matches()) {
                int end = start;
                while (end < lines.length - 1 && !lines[end].equals(head.group(1) + "}")) {
                    end++;
                }
                methods++;
                Check.due("at most 60 lines: " + lines[start].trim(), end - start < 60, true);
            }
        }
        Check.due("methods are found", methods > 20, true);
    }

    private static void fieldsOf(Class<?> each) {
        int own = 0;
        for (Field field : each.getDeclaredFields()) {
            boolean shared = Modifier.isStatic(field.getModifiers());
            own += shared ? 0 : 1;
            Check.due(field + " is static and not final", shared && !Modifier.isFinal(field.getModifiers()), false);
        }
        Check.due("at most 20 fields: " + each + " has " + own, own <= 20, true);
    }

    private static void methodsOf(Class<?> each) {
        for (Method method : each.getDeclaredMethods()) {
            Check.due("at most seven parameters: " + method, method.getParameterCount() <= 7, true);
        }
    }

    private static void noPrivateMethodIsNamedAsAPublicOne() {
        Set<String> face = new HashSet<>();
        for (Method method : HazardRules.class.getMethods()) {
            face.add(method.getName());
        }
        for (Method method : HazardRules.class.getDeclaredMethods()) {
            boolean hidden = Modifier.isPrivate(method.getModifiers());
            Check.due(method + " bears a public name", hidden && face.contains(method.getName()), false);
        }
    }
}
