import java.io.IOException;
import java.lang.reflect.Constructor;
import java.lang.reflect.Field;
import java.lang.reflect.Method;
import java.lang.reflect.Modifier;
import java.nio.file.Files;
import java.nio.file.Path;
import java.util.ArrayList;
import java.util.Arrays;
import java.util.List;
import java.util.TreeSet;
import java.util.regex.Matcher;
import java.util.regex.Pattern;

/** The public face, and that calls make no objects. */
public final class FaceTest {
    private static final String[] FACE = {
        "int feed(int, int, int, int, int)", "int book(int)", "int fault()", "int where()", "int way(int, int)",
        "boolean door(int, boolean)", "boolean speed(int, int)", "boolean fall(int, boolean)", "boolean fire(int, int)",
        "boolean mark(int)", "int air(int)", "long cost()", "int turned(int)", "int gas(int)", "int thick(int)",
        "int over()", "int sound()", "int failing(boolean)", "int setting()", "int smoke(int)", "int man(int)",
        "int out(int)", "int change(int, int, int)", "int order(int)", "int make()", "int reading(int, int, int)",
        "int fits(int)", "int led(int, int) throws java.util.NoSuchElementException", "int count(int)", "int trouble()"
    };

    public static void main(String[] args) throws IOException {
        asWritten();
        face();
        inside();
        makesNothing();
        Check.end();
    }

    /** FACE is what the document writes out, call by call. */
    private static void asWritten() throws IOException {
        Path document = Path.of(System.getProperty("project", "."), "..", "shared", "DOC.md");
        if (!Files.isReadable(document)) {
            System.out.println("no " + document + " to hold the face against");
            return;
        }
        Matcher block = Pattern.compile("(?s)```java\n(.*?)```").matcher(Files.readString(document));
        Check.is("the document writes the face", block.find(), true);
        List<String> written = new ArrayList<>();
        Matcher call = Pattern.compile("public (\\w+ \\w+)\\(([^)]*)\\)( throws \\w+)?;").matcher(block.group(1));
        while (call.find()) {
            String thrown = call.group(3) == null ? "" : call.group(3).replace("throws ", "throws java.util.");
            written.add(call.group(1) + "(" + call.group(2).replaceAll("(int|boolean|long) \\w+", "$1") + ")" + thrown);
        }
        Check.is("calls of the face", written.size(), FACE.length);
        for (String s : FACE) Check.is("written in the document: " + s, written.contains(s), true);
    }

    private static void face() {
        Check.is("public final", MineAir.class.getModifiers(), Modifier.PUBLIC | Modifier.FINAL);
        Check.is("NONE", MineAir.NONE, -1);
        TreeSet<String> got = new TreeSet<>();
        TreeSet<String> hidden = new TreeSet<>();
        for (Method m : MineAir.class.getDeclaredMethods()) {
            if (Modifier.isPublic(m.getModifiers())) {
                got.add(m.toString().replace("public ", "").replace("MineAir.", "").replace(",", ", "));
            } else {
                Check.is(m + " is private", Modifier.isPrivate(m.getModifiers()), true);
                hidden.add(m.getName());
            }
        }
        TreeSet<String> due = new TreeSet<>(Arrays.asList(FACE));
        for (String s : got) Check.is("in the document: " + s, due.contains(s), true);
        for (String s : due) {
            Check.is("in the class: " + s, got.contains(s), true);
            String name = s.substring(s.indexOf(' ') + 1, s.indexOf('('));
            Check.is("no private method has this name: " + name, hidden.contains(name), false);
        }
        Constructor<?>[] all = MineAir.class.getDeclaredConstructors();
        Check.is("constructors", all.length, 1);
        Check.is("public", Modifier.isPublic(all[0].getModifiers()), true);
        for (Field f : MineAir.class.getDeclaredFields()) {
            boolean seen = !Modifier.isPrivate(f.getModifiers());
            Check.is("field " + f.getName(), seen, f.getName().equals("NONE"));
        }
    }

    private static void inside() {
        Class<?>[] inside = MineAir.class.getDeclaredClasses();
        Check.is("some twelve classes", inside.length <= 12, true);
        for (Class<?> c : inside) {
            Check.is(c + " is static", Modifier.isStatic(c.getModifiers()), true);
            Check.is(c + " is not public", Modifier.isPublic(c.getModifiers()), false);
            int fields = 0;
            for (Field f : c.getDeclaredFields()) {
                if (!Modifier.isStatic(f.getModifiers())) fields++;
                else Check.is(f + " is final", Modifier.isFinal(f.getModifiers()), true);
            }
            Check.is(c + " has some twenty fields", fields <= 20, true);
            for (Method m : c.getDeclaredMethods()) {
                Check.is(m + ": parameters", m.getParameterCount() <= 7, true);
                for (String s : FACE) Check.is(m + " has a public one's name", s.contains(" " + m.getName() + "("), false);
            }
        }
    }

    private static void makesNothing() {
        com.sun.management.ThreadMXBean meter =
                (com.sun.management.ThreadMXBean) java.lang.management.ManagementFactory.getThreadMXBean();
        long self = Thread.currentThread().getId();
        MineAir mine = Check.of("way a day x hinder1size1walk1;way b x y hinder2size1walk1;way c y day hinder3size1walk1;"
                + "way d x day hinder4size1walk1;door p in a by 3;door q in b by 3;pair p q;face g in c gas 1 need 1;"
                + "fan fa in a push 99 fall 1 cost 1;fan fb in b push 99 fall 1 cost 1;fan fc in c push 99 fall 1 cost 1");
        mine.man(1);
        mine.reading(0, 0, 60);
        long spent = 0;
        for (int i = 0; i < 300; i++) {
            long before = meter.getThreadAllocatedBytes(self);
            all(mine, i);
            spent = meter.getThreadAllocatedBytes(self) - before;
        }
        Check.is("bytes for new objects", spent < 64, true);
    }

    private static void all(MineAir mine, int i) {
        mine.fire(1, i % 7);
        mine.speed(0, i % 4);
        mine.mark(1 + i);
        mine.air(0);
        mine.cost();
        mine.turned(0);
        mine.gas(1);
        mine.over();
        mine.sound();
        mine.failing(true);
        mine.failing(false);
        mine.setting();
        mine.smoke(2);
        mine.out(0);
        mine.change(1, i % 3, i % 4);
        mine.change(0, i % 2, i % 2);
        mine.order(0);
        mine.make();
        mine.fits(i);
        mine.count(1);
        mine.feed(0x77617920, i, i, i, i);
        mine.book(20);
        if (mine.fault() != 1) throw new IllegalStateException();
    }
}
