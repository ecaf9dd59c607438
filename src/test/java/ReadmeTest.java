import java.io.IOException;
import java.net.URL;
import java.net.URLClassLoader;
import java.nio.file.Files;
import java.nio.file.Path;
import java.util.ArrayList;
import java.util.List;
import java.util.function.Supplier;
import java.util.regex.Matcher;
import java.util.regex.Pattern;
import javax.tools.ToolProvider;

/** The example of README.md compiles, and each call answers what stands behind it. */
public final class ReadmeTest {
    private static final Pattern ANSWERED = Pattern.compile("(rules\\..*);\\s*// (-?\\d+|true|false).*");

    public static void main(String[] args) throws Exception {
        List<String> calls = new ArrayList<>();
        List<String> wants = new ArrayList<>();
        StringBuilder body = new StringBuilder();
        for (String line : exampleLines()) {
            Matcher answered = ANSWERED.matcher(line);
            if (answered.matches()) {
                calls.add(answered.group(1));
                wants.add(answered.group(2));
                body.append("answers.add(\"\" + ").append(answered.group(1)).append(");\n");
            } else {
                body.append(line).append('\n');
            }
        }
        List<String> got = play(body.toString());
        Check.due("answers", got.size(), wants.size());
        for (int i = 0; i < got.size() && i < wants.size(); i++) {
            Check.due(calls.get(i) + " is " + got.get(i) + ", not " + wants.get(i), got.get(i).equals(wants.get(i)), true);
        }
        Check.due("every call of the face is in README.md", missingCalls().size(), 0);
        Check.end();
    }

    private static List<String> exampleLines() throws IOException {
        String readme = Files.readString(Path.of("README.md"));
        String fence = "```java\n";
        int start = readme.indexOf(fence) + fence.length();
        return List.of(readme.substring(start, readme.indexOf("```", start)).split("\n"));
    }

    private static List<String> missingCalls() throws IOException {
        String readme = Files.readString(Path.of("README.md"));
        List<String> missing = new ArrayList<>();
        for (var method : HazardRules.class.getMethods()) {
            if (method.getDeclaringClass() == HazardRules.class && !readme.contains("`" + method.getName() + "(")) {
                missing.add(method.getName());
                System.out.println("README.md has no " + method.getName());
            }
        }
        return missing;
    }

    /** The example as a class of its own, which hands back the answers that it was given. */
    @SuppressWarnings("unchecked")
    private static List<String> play(String body) throws Exception {
        Path folder = Files.createTempDirectory("readme");
        Path file = folder.resolve("Example.java");
        try {
            Files.writeString(file, "public class Example implements java.util.function.Supplier<java.util.List<String>> {\n"
                    + "public java.util.List<String> get() {\n"
                    + "java.util.List<String> answers = new java.util.ArrayList<>();\n" + body + "return answers;\n}\n}\n");
            int code = ToolProvider.getSystemJavaCompiler().run(null, null, null, "-cp",
                    System.getProperty("java.class.path"), "-d", folder.toString(), file.toString());
            Check.due("the example compiles", code, 0);
            try (URLClassLoader loader = new URLClassLoader(new URL[] {folder.toUri().toURL()})) {
                Object example = loader.loadClass("Example").getDeclaredConstructor().newInstance();
                return ((Supplier<List<String>>) example).get();
            }
        } finally {
            for (String name : List.of("Example.java", "Example.class", "")) {
                Files.deleteIfExists(folder.resolve(name));
            }
        }
    }
}
