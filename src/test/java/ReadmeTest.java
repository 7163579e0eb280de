import java.io.IOException;
import java.lang.reflect.Method;
import java.lang.reflect.Modifier;
import java.nio.file.Files;
import java.nio.file.Path;
import java.util.ArrayList;
import java.util.List;
import java.util.regex.Matcher;
import java.util.regex.Pattern;
import javax.tools.ToolProvider;

/** Does the walk that README.md tells, as it is told there, and looks at the answer behind every call. */
public final class ReadmeTest {
    private static final Path README = Path.of("README.md");
    private static final Pattern BLOCK = Pattern.compile("(?s)```java\n(.*?)```");
    private static final Pattern ANSWERED = Pattern.compile("(?:int (\\w+) = )?(x\\.\\w+\\(.*\\)); +// (-?\\d+)(:.*)?");

    private final List<String> calls = new ArrayList<>();
    private final List<Long> wanted = new ArrayList<>();

    /** The blocks of Java: the first is a method, the other one the walk. */
    private static List<String> blocks() throws IOException {
        List<String> blocks = new ArrayList<>();
        Matcher m = BLOCK.matcher(Files.readString(README));
        while (m.find()) {
            blocks.add(m.group(1));
        }
        return blocks;
    }

    private String walkOf(String block) {
        StringBuilder walk = new StringBuilder();
        for (String line : block.split("\n")) {
            Matcher m = ANSWERED.matcher(line);
            if (!m.matches()) {
                walk.append(line).append('\n');
                continue;
            }
            calls.add(m.group(2));
            wanted.add(Long.valueOf(m.group(3)));
            String name = m.group(1);
            walk.append(name == null ? "" : "int " + name + " = " + m.group(2) + ";\n");
            walk.append("got.add((long) ").append(name == null ? m.group(2) : name).append(");\n");
        }
        return walk.toString();
    }

    /** What the walk answers, call by call; it is compiled to where this test was. */
    private static List<?> run(String method, String walk) throws Exception {
        String built = System.getProperty("java.class.path");
        Path source = Path.of(built, "ReadmeWalk.java");
        Files.writeString(source, "public final class ReadmeWalk {\n" + method
            + "public static java.util.List<Long> walk() {\njava.util.List<Long> got = new java.util.ArrayList<>();\n"
            + walk + "return got;\n}\n}\n");
        int failed = ToolProvider.getSystemJavaCompiler().run(null, null, null, "-d", built, "-cp", built,
            "-sourcepath", "src/main/java", source.toString());
        return failed == 0 ? (List<?>) Class.forName("ReadmeWalk").getMethod("walk").invoke(null) : List.of();
    }

    private boolean shows(String name) {
        for (String call : calls) {
            if (call.startsWith("x." + name + "(")) {
                return true;
            }
        }
        return false;
    }

    public static void main(String[] args) throws Exception {
        Due due = new Due();
        ReadmeTest readme = new ReadmeTest();
        List<String> blocks = blocks();
        due.is("blocks of Java in README.md", blocks.size(), 2);
        String walk = readme.walkOf(blocks.get(1));
        List<?> got = run(blocks.get(0), walk);
        due.is("calls that were answered", got.size(), readme.calls.size());
        for (int i = 0; i < got.size(); i++) {
            due.is(readme.calls.get(i), (Long) got.get(i), readme.wanted.get(i));
        }
        for (Method m : LeavesInCups.class.getDeclaredMethods()) {
            due.isTrue(m.getName() + " is shown", !Modifier.isPublic(m.getModifiers()) || readme.shows(m.getName()));
        }
        due.end();
    }
}
