import java.io.IOException;
import java.nio.file.Files;
import java.nio.file.Path;
import java.util.List;
import java.util.regex.Matcher;
import java.util.regex.Pattern;

/** What of ../shared/LANGUAGE.md can be seen in the text of MineAir.java. */
public final class RulesTest {
    private static final String[] RULED_OUT = {
        "->", "::", "\\bfinally\\b", "\\bsynchronized\\b", "\\bassert\\b", "\\bcatch\\b", "\\bprotected\\b", "\\bpackage\\b",
        "\\bdouble\\b", "\\bfloat\\b", "\\bvar\\b", "\\bstatic\\s*\\{", "\\w+Exact\\b", "\\bequals\\b", "\\bhashCode\\b", "\\btoString\\b",
        "\\bSystem\\.(?!arraycopy\\b)", "\\bThread\\b", "\\bRandom\\b", "\\bObject\\b", "\\bnull\\b", "\\bwhile\\s*\\(\\s*true\\b",
        "\\bfor\\s*\\([^;)]*;\\s*;", "\\bthrow\\b(?! new NoSuchElementException\\(\\);)", "\\bimport\\b(?! java\\.util\\.(Arrays|NoSuchElementException);)",
        "\\bMath\\.(?!(abs|max|min)\\b)", "\\bArrays\\.(?!(fill|copyOf|copyOfRange)\\b)", "\\bnew\\s+(?!(int|long|boolean)\\[|[A-Z]\\w*\\()"
    };

    public static void main(String[] args) throws IOException {
        String project = System.getProperty("project", ".");
        List<String> lines = Files.readAllLines(Path.of(project, "src/main/java/MineAir.java"));
        String text = String.join("\n", lines);
        String bare = text.replaceAll("(?s)/\\*.*?\\*/", " ").replaceAll("//[^\n]*", " ");
        String plain = bare.replaceAll("\"[^\"\n]*\"", "\"\"");
        for (String pattern : RULED_OUT) {
            Matcher m = Pattern.compile(pattern).matcher(plain);
            boolean found = m.find();
            if (found) System.out.println(pattern + ": " + plain.substring(Math.max(0, m.start() - 40), Math.min(plain.length(), m.end() + 40)));
            Check.is("ruled out: " + pattern, found, false);
        }
        Check.is("signs of 1 to 127 alone", text.chars().allMatch(c -> c > 0 && c < 128), true);
        methods(lines);
        staticFields(plain);
        Check.end();
    }

    /** "Methods stay short (some sixty lines)"; "at most seven parameters". */
    private static void methods(List<String> lines) {
        Pattern head = Pattern.compile("^( {4}| {8})(?! )(?!.*\\b(class|new|return|else)\\b)[\\w<>\\[\\] ]*\\w\\(([^)]*)\\)[\\w ,]*\\{$");
        int seen = 0;
        for (int i = 0; i < lines.size(); i++) {
            Matcher m = head.matcher(lines.get(i));
            if (!m.matches()) continue;
            seen++;
            int end = i;
            while (end < lines.size() && !lines.get(end).equals(m.group(1) + "}")) end++;
            Check.is(lines.get(i).trim() + ": lines", end - i < 60, true);
            Check.is(lines.get(i).trim() + ": parameters", m.group(3).split(",").length <= 7, true);
        }
        Check.is("methods were found", seen > 80, true);
    }

    /** "Static fields are final". */
    private static void staticFields(String plain) {
        Matcher m = Pattern.compile("\\bstatic\\s+(?!final\\b)[^;{]*").matcher(plain);
        while (m.find()) Check.is(m.group().trim() + " is a method or final", m.group().contains("("), true);
    }
}
