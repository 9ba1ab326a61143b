import java.io.IOException;
import java.nio.file.Files;
import java.nio.file.Path;
import java.util.ArrayList;
import java.util.List;
import java.util.regex.Matcher;
import java.util.regex.Pattern;

/** Those rules of ../shared/LANGUAGE.md that can be seen from the source's words. */
public final class LanguageTest {
    private static final Checks C = new Checks("LanguageTest");
    private static final int MEMBER = 4;
    private static final int INNER = 8;

    public static void main(String[] args) throws IOException {
        String source = Files.readString(Path.of("src/main/java/OilHome.java"));
        for (int i = 0; i < source.length(); i++) {
            if (source.charAt(i) > 126) {
                C.due("a sign that is not plain at " + i, source.charAt(i), 0);
            }
        }
        String bare = source.replaceAll("(?s)/\\*.*?\\*/", "").replaceAll("//[^\n]*", "");
        forbidden(bare);
        C.due("classes are at most 12", count(bare, "\\b(class|record|enum|interface) [A-Z]") <= 12 ? 1 : 0, 1);
        C.due("public: class, constant, constructor, methods", count(bare, "\\bpublic\\b"), 1 + 1 + 1 + 59);
        C.due("methods of more than 7 parameters", count(bare, "\n +[\\w<>\\[\\] ]+ \\w+\\([^()]*(,[^(),]*){7,}\\) \\{"), 0);
        members(source.split("\n"));
        C.end();
    }

    private static int count(String text, String pattern) {
        int count = 0;
        for (Matcher matcher = Pattern.compile(pattern).matcher(text); matcher.find();) {
            count++;
        }
        return count;
    }

    private static void forbidden(String bare) {
        String[] patterns = {"\\bthrows?\\b", "\\btry\\b", "\\bcatch\\b", "\\bfinally\\b", "\\bsynchronized\\b", "\\bassert\\b",
            "\\bpackage\\b", "\\bprotected\\b", "->", "::", "\\bvar\\b", "\\bstatic \\{", "Exact\\(", "\\bNaN\\b", "\\bObject\\b",
            "\\bSystem\\.(?!arraycopy)", "\\b(Random|Thread|File|Clock|Set|Map|HashMap)\\b", "\\binstanceof\\b", "\\byield\\b",
            "\\.(equals|hashCode|toString|stream|format|charAt|split)\\(", "import (?!java\\.util\\.(ArrayList|List|Arrays);)",
            "\\(new (int|long)\\[", "@"};
        for (String pattern : patterns) {
            C.due(pattern, count(bare, pattern), 0);
        }
    }

    private static boolean starts(String line, int indent) {
        return line.length() > indent && line.substring(0, indent).isBlank() && line.charAt(indent) != ' '
                && line.charAt(indent) != '}' && line.charAt(indent) != '/' && line.charAt(indent) != '*';
    }

    /** Members stand in four columns, those of classes inside in eight: lengths of methods, fields of classes, names. */
    private static void members(String[] lines) {
        List<String> faces = new ArrayList<>();
        List<String> others = new ArrayList<>();
        int fields = 0;
        int from = 0;
        boolean inner = false;
        for (int i = 0; i < lines.length; i++) {
            String line = lines[i];
            if (starts(line, MEMBER) && line.contains(" class ")) {
                inner = true;
                fields = 0;
            }
            int indent = inner && !line.contains(" class ") ? INNER : MEMBER;
            if (starts(line, indent)) {
                from = i;
                fields += line.endsWith(";") && !line.contains("static") ? 1 : 0;
                C.due("at most 20 fields at line " + i, fields <= 20 ? 1 : 0, 1);
                Matcher method = Pattern.compile("^ +(public|private)? ?.*?(\\w+)\\([^)]*\\) \\{$").matcher(line);
                boolean open = !inner && !line.contains("private") && !line.contains("public");
                C.due("public or private at line " + (i + 1), open ? 1 : 0, 0);
                if (method.matches() && !inner) {
                    ("public".equals(method.group(1)) ? faces : others).add(method.group(2));
                }
            }
            if (line.equals(" ".repeat(indent) + "}")) {
                C.due("at most 60 lines up to " + i, i - from < 60 ? 1 : 0, 1);
            }
            C.due("at most 130 columns at " + (i + 1), line.length() <= 130 ? 1 : 0, 1);
        }
        for (String other : others) {
            C.due("a private method has the name of a public one: " + other, faces.contains(other) ? 1 : 0, 0);
        }
    }
}
