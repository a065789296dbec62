import java.io.IOException;
import java.lang.management.ManagementFactory;
import java.lang.reflect.Constructor;
import java.lang.reflect.Field;
import java.lang.reflect.Method;
import java.lang.reflect.Modifier;
import java.nio.file.Files;
import java.nio.file.Path;
import java.util.Set;
import java.util.TreeSet;
import java.util.regex.Matcher;
import java.util.regex.Pattern;

/** The face as the document prints it, what can be seen of LANGUAGE.md in the source, and the room. */
public final class FaceTest {
    private static final Set<String> FACE = Set.of(
            "int basin(int,int,int)", "int siphon(int,int,int,int,int,int)", "boolean clog(int,int)",
            "boolean cock(int,boolean)", "int feed(int,int,int,int,int)", "int end(int)", "int text()",
            "int fault(int)", "boolean by(int)", "int laid(int)", "int drops(int)", "int of(int,int)",
            "int ticks(int)", "int plays(int)", "int round(int)", "int want(int,int,int,int)", "int missed()",
            "int turnsOf(int)", "int dig(int,int)", "int heard(int,int,boolean)", "int suspects()",
            "int look(int)", "int frost(int)", "int dry(int)", "int line(int,int,boolean)", "int written(int)",
            "int shortOf(int)", "int image()", "int back()", "int about(int)");

    public static void main(String[] args) throws IOException {
        face();
        inside();
        source();
        room();
        Due.close();
    }

    private static void face() {
        Due.promise(0, "the public face");
        Set<String> seen = new TreeSet<>();
        for (Method m : NoonBasins.class.getDeclaredMethods()) {
            if (Modifier.isPrivate(m.getModifiers())) {
                continue;
            }
            Due.holds(m + " is public and not static", m.getModifiers() == Modifier.PUBLIC);
            StringBuilder b = new StringBuilder(m.getReturnType() + " " + m.getName() + "(");
            for (Class<?> p : m.getParameterTypes()) {
                b.append(b.charAt(b.length() - 1) == '(' ? "" : ",").append(p);
            }
            seen.add(b.append(")").toString());
        }
        Due.holds("methods: " + seen, seen.equals(new TreeSet<>(FACE)));
        for (Field f : NoonBasins.class.getDeclaredFields()) {
            Due.holds(f + " is private", Modifier.isPrivate(f.getModifiers()) || f.getName().equals("NONE"));
        }
        Constructor<?>[] made = NoonBasins.class.getDeclaredConstructors();
        Due.holds("one constructor", made.length == 1 && made[0].getParameterCount() == 0
                && Modifier.isPublic(made[0].getModifiers()));
        Due.holds("final", Modifier.isFinal(NoonBasins.class.getModifiers()));
    }

    private static void inside() {
        Due.promise(0, "LANGUAGE.md 1, 2, 5, 11");
        Set<String> names = new TreeSet<>();
        for (String f : FACE) {
            names.add(f.substring(f.indexOf(' ') + 1, f.indexOf('(')));
        }
        Class<?>[] classes = NoonBasins.class.getDeclaredClasses();
        Due.holds("twelve classes at most: " + (classes.length + 1), classes.length + 1 <= 12);
        for (Method m : NoonBasins.class.getDeclaredMethods()) {
            Due.holds(m + " bears no public name", !Modifier.isPrivate(m.getModifiers()) || !names.contains(m.getName()));
        }
        for (Class<?> c : classes) {
            Due.holds(c + " is static", Modifier.isStatic(c.getModifiers()));
            int fields = 0;
            for (Field f : c.getDeclaredFields()) {
                fields += Modifier.isStatic(f.getModifiers()) ? 0 : 1;
                Due.holds(f + " is final", !Modifier.isStatic(f.getModifiers()) || Modifier.isFinal(f.getModifiers()));
            }
            Due.holds(c + " has " + fields + " fields", fields <= 20);
            for (Method m : c.getDeclaredMethods()) {
                Due.holds(m + " bears no public name", !names.contains(m.getName()));
                Due.holds(m + " has seven parameters at most", m.getParameterCount() <= 7);
            }
        }
    }

    private static void source() throws IOException {
        Due.promise(0, "LANGUAGE.md, by its words");
        String whole = Files.readString(Path.of("src/main/java/NoonBasins.java"));
        for (char c : whole.toCharArray()) {
            if (c > 126) {
                Due.holds("a sign beyond 126", false);
            }
        }
        String bare = whole.replaceAll("(?s)/\\*.*?\\*/", "").replaceAll("//[^\n]*", "").replaceAll("\"[^\"\n]*\"", "\"\"");
        for (String word : new String[] {"throw", "throws", "try", "catch", "finally", "synchronized", "assert",
            "package", "volatile", "native", "hashCode", "toString", "goto", "Exact", "Object", "System.out"}) {
            Due.holds("no " + word, !Pattern.compile("\\b" + Pattern.quote(word) + "\\b").matcher(bare).find());
        }
        Due.holds("no lambda", !bare.contains("->"));
        Due.holds("no method reference", !bare.contains("::"));
        Matcher imports = Pattern.compile("import ([^;]+);").matcher(bare);
        while (imports.find()) {
            Due.is("import " + imports.group(1), imports.group(1).equals("java.util.Arrays"), true);
        }
        methodLengths(whole);
    }

    private static void methodLengths(String whole) {
        int open = -1;
        String[] lines = whole.split("\n");
        for (int i = 0; i < lines.length; i++) {
            if (lines[i].matches(" {4,8}[a-zA-Z].*\\) \\{")) {
                open = i;
            }
            if (open >= 0 && lines[i].matches(" {4,8}\\}")) {
                Due.holds(lines[open].trim() + " is short", i - open + 1 <= 60);
                open = -1;
            }
        }
    }

    private static long spent() {
        return ((com.sun.management.ThreadMXBean) ManagementFactory.getThreadMXBean()).getCurrentThreadAllocatedBytes();
    }

    /** What a run makes stays in its room: an object is small, and its calls make nothing. */
    private static void room() {
        Due.promise(0, "the room");
        spent();
        long before = spent();
        NoonBasins x = new NoonBasins();
        long made = spent() - before;
        Due.holds("an object takes " + made + " bytes", made < 60000);
        Due.read(x, "spring 2;flow if level>5?bore*2-clog:1 end;sun level/9;due 9;basin 9,9,9;siphon 0,99,9,1,3;");
        Due.read(x, "spring 3;");
        before = spent();
        for (int round = 0; round < 8; round++) {
            everyCall(x);
        }
        long more = spent() - before;
        Due.holds("calls take " + more + " bytes", more < 2000);
    }

    private static void everyCall(NoonBasins x) {
        x.laid(0);
        x.by(0);
        x.basin(5, 9, 3);
        x.siphon(0, 1, 8, 0, 2, 2);
        x.siphon(1, -1, 8, 0, 2, 2);
        x.clog(0, 1);
        x.cock(0, true);
        x.ticks(9);
        x.want(0, 9, 0, 0);
        x.want(2, 11, 0, 9);
        x.heard(3, 0, true);
        x.line(3, 0, true);
        x.plays(400);
        x.round(0);
        x.missed();
        x.turnsOf(0);
        x.dig(3, 0);
        x.suspects();
        x.look(0);
        x.frost(400);
        x.dry(1);
        x.written(-1);
        x.shortOf(9);
        x.feed(0x7375, 0x6e20313b, 0, 0, 0);
        x.text();
        x.fault(0);
        x.of(0, 0);
        x.drops(0);
        x.about(0);
        x.image();
        x.back();
    }
}
