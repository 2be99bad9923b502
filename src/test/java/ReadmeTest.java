import java.io.File;
import java.io.IOException;
import java.net.URL;
import java.net.URLClassLoader;
import java.nio.file.Files;
import java.nio.file.Path;
import java.util.ArrayList;
import java.util.List;
import java.util.regex.Matcher;
import java.util.regex.Pattern;
import javax.tools.JavaCompiler;
import javax.tools.ToolProvider;

/** The Java that README.md shows, run as it stands there: each answer behind // is the one that is due. */
public final class ReadmeTest {
    private static final Pattern BLOCK = Pattern.compile("(?m)^```java\\n((?s:.*?))^```$");
    private static final Pattern ASKED = Pattern.compile("(?ms)^((?:mine\\.|tell\\()[^;\"]*(?:\"[^\"]*\"[^;\"]*)*);[ ]*//[ ]*([^\\n]*)$");
    private static final Pattern ANSWER = Pattern.compile("(-?\\d+|true|false|throws NoSuchElementException)\\b.*");

    private int asked = 0;
    private int told = 0;

    public static void main(String[] args) throws Exception {
        new ReadmeTest().run();
        Check.end();
    }

    private void run() throws Exception {
        String project = System.getProperty("project", ".");
        String page = Files.readString(Path.of(project, "README.md")).replace("\r", "");
        StringBuilder members = new StringBuilder();
        StringBuilder body = new StringBuilder();
        Matcher block = BLOCK.matcher(page);
        while (block.find()) {
            String code = block.group(1);
            told += code.split("//", -1).length - 1;
            if (code.startsWith("static ")) members.append(code);
            else body.append(asking(code));
        }
        Check.is("the page shows answers of calls", asked >= 40, true);
        Check.is("and each one is held against the class", asked, told);
        everyCallIsTold(page);
        for (String[] row : answers(members.toString(), body.toString())) {
            if (!row[1].equals(row[2])) System.out.println("README.md: " + row[0] + " answered " + row[1] + ", it says " + row[2]);
            Check.is("README.md: " + row[0], row[1].equals(row[2]), true);
        }
    }

    /** Each call with an answer behind it becomes a row: the call, what it answered, what the page says. */
    private String asking(String code) {
        StringBuilder out = new StringBuilder();
        Matcher m = ASKED.matcher(code);
        int from = 0;
        while (m.find()) {
            Matcher answer = ANSWER.matcher(m.group(2));
            Check.is("an answer behind // of " + m.group(1), answer.matches(), true);
            if (!answer.matches()) continue;
            asked++;
            String call = m.group(1);
            String shown = call.replaceAll("\\s+", " ").replace("\"", "'");
            out.append(code, from, m.start());
            out.append("try { rows.add(new String[] {\"").append(shown).append("\", String.valueOf(").append(call).append("), \"")
                    .append(answer.group(1)).append("\"}); } catch (java.util.NoSuchElementException e) { rows.add(new String[] {\"")
                    .append(shown).append("\", \"throws NoSuchElementException\", \"").append(answer.group(1)).append("\"}); }");
            from = m.end();
        }
        return out.append(code.substring(from)).toString();
    }

    /** README.md says how to use the class: no call of the face is left out. */
    private static void everyCallIsTold(String page) {
        for (java.lang.reflect.Method m : MineAir.class.getDeclaredMethods()) {
            if (!java.lang.reflect.Modifier.isPublic(m.getModifiers())) continue;
            Check.is("the page tells " + m.getName(), page.contains("`" + m.getName() + "("), true);
        }
    }

    @SuppressWarnings("unchecked")
    private static List<String[]> answers(String members, String body) throws Exception {
        Path room = Files.createTempDirectory("readme");
        Path file = room.resolve("Shown.java");
        Files.writeString(file, "public final class Shown {\n" + members
                + "public static java.util.List<String[]> rows() {\njava.util.List<String[]> rows = new java.util.ArrayList<>();\n"
                + body + "return rows;\n}\n}\n");
        try {
            JavaCompiler compiler = ToolProvider.getSystemJavaCompiler();
            int rc = compiler.run(null, null, null, "-nowarn", "-d", room.toString(),
                    "-cp", System.getProperty("java.class.path"), file.toString());
            Check.is("the page's Java compiles", rc, 0);
            if (rc != 0) return new ArrayList<>();
            try (URLClassLoader loader = new URLClassLoader(new URL[] {room.toUri().toURL()}, ReadmeTest.class.getClassLoader())) {
                return (List<String[]>) loader.loadClass("Shown").getMethod("rows").invoke(null);
            }
        } finally {
            remove(room);
        }
    }

    private static void remove(Path room) throws IOException {
        File[] files = room.toFile().listFiles();
        if (files != null) for (File f : files) Files.delete(f.toPath());
        Files.delete(room);
    }
}
