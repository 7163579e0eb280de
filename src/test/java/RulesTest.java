import java.io.IOException;
import java.nio.file.Files;
import java.nio.file.Path;
import java.util.List;
import java.util.regex.Matcher;
import java.util.regex.Pattern;

/** What ../shared/LANGUAGE.md rules out and a look at the lines can find. */
public final class RulesTest {
    private static final Path SOURCE = Path.of("src/main/java/LeavesInCups.java");
    private static final String[] RULED_OUT = {
        "^\\s*(package|import)\\b", "@", "->", "::", "\\bthrow\\b", "\\btry\\b", "\\bcatch\\b", "\\bfinally\\b",
        "\\bsynchronized\\b", "\\bassert\\b", "\\bObject\\b", "\\bSystem\\.(?!arraycopy)", "Exact\\(", "\\bThread\\b",
        "\\bnew Random\\b", "\\bvar\\b", "\\bequals\\b", "\\bhashCode\\b", "\\btoString\\b", "\\bprotected\\b",
        "\\b(Integer|Long)\\.M", "\\bnull\\b", "\\bstatic (int|long|boolean|char|String)(\\[\\])? \\w+( =|;)", "\\bstatic \\{",
    };
    private static final int MOST_LINES = 60;
    private static final int MOST_PARAMETERS = 7;
    private static final int MOST_CLASSES = 12;
    private static final int MOST_FIELDS = 20;

    private static final Due due = new Due();

    private static void lookForRuledOut(List<String> lines) {
        for (String pattern : RULED_OUT) {
            Pattern p = Pattern.compile(pattern);
            for (int i = 0; i < lines.size(); i++) {
                due.isTrue("line " + (i + 1) + " is without " + pattern, !p.matcher(lines.get(i)).find());
            }
        }
    }

    private static void lookAtSigns(List<String> lines) {
        for (String line : lines) {
            due.isTrue("signs of 1 to 127: " + line, line.chars().allMatch(sign -> sign >= 1 && sign <= 127));
        }
    }

    private static void lookAtMethods(List<String> lines) {
        Pattern head = Pattern.compile("^(\\s+)(?!return|else|new)[\\w\\[\\] ]*\\w+\\(([^()]*)\\) \\{$");
        int methods = 0;
        for (int i = 0; i < lines.size(); i++) {
            Matcher m = head.matcher(lines.get(i));
            if (!m.matches() || lines.get(i).matches("\\s+(if|for|while|switch) .*")) {
                continue;
            }
            methods++;
            int end = i;
            while (end < lines.size() && !lines.get(end).equals(m.group(1) + "}")) {
                end++;
            }
            due.isTrue("short: " + lines.get(i).trim(), end - i < MOST_LINES);
            due.isTrue("few parameters: " + lines.get(i).trim(), m.group(2).split(",").length <= MOST_PARAMETERS);
        }
        due.isTrue("methods were found: " + methods, methods > 80);
    }

    private static void lookAtClasses(List<String> lines) {
        int classes = 0;
        int fields = 0;
        for (String line : lines) {
            classes += line.matches(".*\\b(class|record|enum|interface) \\w+.*\\{") ? 1 : 0;
            fields += line.matches(" {4}private (?!static)[^()]*( =.*|;)") ? 1 : 0;
        }
        due.isTrue("classes: " + classes, classes >= 1 && classes <= MOST_CLASSES);
        due.isTrue("fields of the outer class: " + fields, fields >= 1 && fields <= MOST_FIELDS);
    }

    public static void main(String[] args) throws IOException {
        List<String> lines = Files.readAllLines(SOURCE);
        lookForRuledOut(lines);
        lookAtSigns(lines);
        lookAtMethods(lines);
        lookAtClasses(lines);
        due.end();
    }
}
