import java.io.IOException;
import java.lang.management.ManagementFactory;
import java.lang.reflect.Constructor;
import java.lang.reflect.Field;
import java.lang.reflect.Method;
import java.lang.reflect.Modifier;
import java.nio.file.Files;
import java.nio.file.Path;
import java.util.ArrayList;
import java.util.HashSet;
import java.util.List;
import java.util.Set;
import java.util.TreeSet;
import java.util.regex.Matcher;
import java.util.regex.Pattern;

/** What of ../shared/LANGUAGE.md can be seen from the source, the class and the room that calls take. */
public final class LanguageTest {
    private static final String FACE = "thing/3 fact/2 paint/4 of/3 hole/4 terms/2 feed/5 end/1 row/0 flakes/0 law/0 fault/0 "
        + "force/1 off/2 has/1 tax/2 owes/1 owner/1 brings/1 dearest/0 quite/2 quiteAt/4 free/3 form/4 order/1 forms/2 fills/3 "
        + "sure/5 place/2 street/1 best/1 bestAt/1 ruler/3 daub/2 daubed/1 image/1 back/1 count/1 status/0";
    private static int wrong = 0;

    private static void due(String what, boolean so) {
        if (!so) {
            wrong++;
            System.out.println("not so: " + what);
        }
    }

    private static void face() {
        Class<?> c = SymmetryTax.class;
        due("public final class", Modifier.isPublic(c.getModifiers()) && Modifier.isFinal(c.getModifiers()));
        Set<String> want = new TreeSet<>(List.of(FACE.split(" ")));
        Set<String> got = new TreeSet<>();
        Set<String> names = new HashSet<>();
        for (Method m : c.getDeclaredMethods()) {
            if (Modifier.isPublic(m.getModifiers())) {
                got.add(m.getName() + "/" + m.getParameterCount());
                names.add(m.getName());
                due(m + " answers an int", m.getReturnType() == int.class);
            } else {
                due(m + " is private", Modifier.isPrivate(m.getModifiers()));
            }
        }
        due("the methods are those of the face", want.equals(got));
        for (Field f : c.getDeclaredFields()) {
            due(f + " is private, or NONE", Modifier.isPrivate(f.getModifiers()) || f.getName().equals("NONE"));
        }
        Constructor<?>[] made = c.getDeclaredConstructors();
        due("one public constructor", made.length == 1 && Modifier.isPublic(made[0].getModifiers())
            && made[0].getParameterCount() == 0);
        List<Class<?>> classes = new ArrayList<>(List.of(c));
        classes.addAll(List.of(c.getDeclaredClasses()));
        due("some twelve classes", classes.size() <= 12);
        for (Class<?> k : classes) {
            inside(k, k == c, names);
        }
    }

    private static void inside(Class<?> k, boolean outer, Set<String> names) {
        due(k + " is static", outer || Modifier.isStatic(k.getModifiers()));
        int fields = 0;
        for (Field f : k.getDeclaredFields()) {
            if (Modifier.isStatic(f.getModifiers())) {
                due(f + " is final", Modifier.isFinal(f.getModifiers()));
                due(f + " is a constant", f.getType() == int.class || f.getType() == int[].class);
            } else {
                fields++;
            }
        }
        due(k + " has some twenty fields", fields <= 20);
        for (Method m : k.getDeclaredMethods()) {
            due(m + " has seven parameters at most", m.getParameterCount() <= 7);
            due(m + " has no public one's name", Modifier.isPublic(m.getModifiers()) || !names.contains(m.getName()));
            due(m + " is no lambda", !m.isSynthetic());
        }
    }

    private static void source() throws IOException {
        String text = Files.readString(Path.of("src/main/java/SymmetryTax.java"));
        due("signs 1 to 127", text.chars().allMatch(c -> c > 0 && c < 128));
        String bare = text.replaceAll("(?s)/\\*.*?\\*/", " ").replaceAll("//[^\n]*", " ")
            .replaceAll("\"[^\"\n]*\"", "\"\"").replaceAll("'[^'\n]+'", "' '");
        for (String word : List.of("throw", "throws", "try", "catch", "finally", "synchronized", "assert", "package", "var",
            "Exception", "Error", "Object", "Random", "System\\.(?!arraycopy)\\w+", "\\w+Exact", "Thread", "native", "enum")) {
            due("no " + word, !Pattern.compile("\\b" + word + "\\b").matcher(bare).find());
        }
        due("no lambda, no reference", !bare.contains("->") && !bare.contains("::"));
        due("no joining by +", !bare.contains("\"\" +") && !bare.contains("+ \"\""));
        due("no loop without an end", !Pattern.compile("while \\(true\\)|for \\(;;\\)").matcher(bare).find());
        Matcher imports = Pattern.compile("import ([\\w.]+);").matcher(bare);
        while (imports.find()) {
            due("import " + imports.group(1), List.of("java.util.Arrays", "java.util.ArrayList", "java.util.List")
                .contains(imports.group(1)));
        }
        methodsAreShort(text);
    }

    private static void methodsAreShort(String text) {
        String[] lines = text.split("\n");
        int from = -1;
        String indent = "";
        for (int n = 0; n < lines.length; n++) {
            Matcher head = Pattern.compile("^(    (?:    )?)(?! )(?!.*class ).*\\) \\{$").matcher(lines[n]);
            if (from < 0 && head.find()) {
                from = n;
                indent = head.group(1);
            } else if (from >= 0 && lines[n].equals(indent + "}")) {
                due("short: " + lines[from].trim(), n - from + 1 <= 60);
                from = -1;
            }
        }
    }

    private static long made() {
        return ((com.sun.management.ThreadMXBean) ManagementFactory.getThreadMXBean())
            .getThreadAllocatedBytes(Thread.currentThread().getId());
    }

    /** Calls take no room, but for laws: what is made is made with the object. */
    private static void room() {
        long start = made();
        SymmetryTax x = new SymmetryTax();
        due("an object takes less than 200,000 bytes", made() - start < 200_000);
        for (int t = 0; t < 6; t++) {
            x.thing(4, 4, t);
            x.hole(t, t % 4, 1, 1);
            x.place(t, t);
        }
        long before = made();
        for (int n = 0; n < 400; n++) {
            x.paint(n % 6, n % 4, n % 3, n % 10);
            x.owes(-1);
            x.free(n % 6, n % 10, 0);
            x.fills(n % 6, 4, 10);
            x.best(0);
            x.daub(n, 3);
            x.ruler(0, 5, 2);
            x.quite(0, 5);
            x.order(n % 6);
            x.image(0);
            x.back(0);
            x.feed(1, 2, 3, 4, 5);
            x.law();
            x.feed(1, 2, 3, 4, 5);
            x.row();
        }
        due("calls take no room", made() - before < 100_000);
    }

    public static void main(String[] args) throws IOException {
        face();
        source();
        room();
        System.out.println(wrong == 0 ? "the language is kept" : wrong + " rules are not kept");
        if (wrong != 0) {
            System.exit(1);
        }
    }
}
