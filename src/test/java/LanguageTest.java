import java.io.DataInputStream;
import java.io.IOException;
import java.lang.management.ManagementFactory;
import java.lang.reflect.Array;
import java.lang.reflect.Constructor;
import java.lang.reflect.Field;
import java.lang.reflect.Method;
import java.lang.reflect.Modifier;
import java.nio.file.Files;
import java.nio.file.Path;
import java.util.ArrayList;
import java.util.Collections;
import java.util.HashSet;
import java.util.IdentityHashMap;
import java.util.List;
import java.util.Set;
import java.util.TreeSet;
import java.util.regex.Matcher;
import java.util.regex.Pattern;

/** What of ../shared/LANGUAGE.md can be seen from the source, the class and the room that calls take. */
public final class LanguageTest {
    private static final String FACE = "thing/3 fact/2 paint/4 of/3 hole/4 terms/2 feed/5 end/1 row/0 flakes/0 law/0 fault/0 "
        + "force/1 off/2 has/1 tax/2 owes/1 owner/1 brings/1 dearest/0 quite/2 quiteAt/4 free/3 form/4 order/1 forms/2 fills/3 "
        + "sure/5 place/2 street/1 best/1 bestAt/1 ruler/3 daub/2 daubed/1 image/1 back/1 count/1 status/0";
    private static final Set<String> LIBRARY = Set.of("java/lang/Object.<init>", "java/lang/System.arraycopy",
        "java/util/Arrays.fill", "java/util/Arrays.copyOf", "java/lang/Math.min", "java/lang/Math.max",
        "java/lang/Integer.bitCount", "java/lang/String.length", "java/lang/String.charAt");
    private static final long ROOM_OBJECTS = 600_000;
    private static final long ROOM_ELEMENTS = 7_300_000;
    private static final int MOST_CALLS = 512;
    private static int wrong = 0;

    private static void due(String what, boolean so) {
        if (!so) {
            wrong++;
            System.out.println("not so: " + what);
        }
    }

    private static void face() {
        Class<?> c = SymmetryTax.class;
        due("public final class", Modifier.isPublic(c.getModifiers()) && Modifier.isFinal(c.getModifiers()));
        Set<String> want = new TreeSet<>(List.of(FACE.split(" ")));
        Set<String> got = new TreeSet<>();
        Set<String> names = new HashSet<>();
        for (Method m : c.getDeclaredMethods()) {
            if (Modifier.isPublic(m.getModifiers())) {
                got.add(m.getName() + "/" + m.getParameterCount());
                names.add(m.getName());
                due(m + " answers an int", m.getReturnType() == int.class);
            } else {
                due(m + " is private", Modifier.isPrivate(m.getModifiers()));
            }
        }
        due("the methods are those of the face", want.equals(got));
        for (Field f : c.getDeclaredFields()) {
            due(f + " is private, or NONE", Modifier.isPrivate(f.getModifiers()) || f.getName().equals("NONE"));
        }
        Constructor<?>[] made = c.getDeclaredConstructors();
        due("one public constructor", made.length == 1 && Modifier.isPublic(made[0].getModifiers())
            && made[0].getParameterCount() == 0);
        List<Class<?>> classes = new ArrayList<>(List.of(c));
        classes.addAll(List.of(c.getDeclaredClasses()));
        due("some twelve classes", classes.size() <= 12);
        for (Class<?> k : classes) {
            inside(k, k == c, names);
        }
    }

    private static void inside(Class<?> k, boolean outer, Set<String> names) {
        due(k + " is static", outer || Modifier.isStatic(k.getModifiers()));
        int fields = 0;
        for (Field f : k.getDeclaredFields()) {
            if (Modifier.isStatic(f.getModifiers())) {
                due(f + " is final", Modifier.isFinal(f.getModifiers()));
                due(f + " is a constant", f.getType() == int.class || f.getType() == int[].class);
            } else {
                fields++;
            }
        }
        due(k + " has some twenty fields", fields <= 20);
        for (Method m : k.getDeclaredMethods()) {
            due(m + " has seven parameters at most", m.getParameterCount() <= 7);
            due(m + " has no public one's name", Modifier.isPublic(m.getModifiers()) || !names.contains(m.getName()));
            due(m + " is no lambda", !m.isSynthetic());
        }
    }

    private static void source() throws IOException {
        String text = Files.readString(Path.of("src/main/java/SymmetryTax.java"));
        due("signs 1 to 127", text.chars().allMatch(c -> c > 0 && c < 128));
        String bare = text.replaceAll("(?s)/\\*.*?\\*/", " ").replaceAll("//[^\n]*", " ")
            .replaceAll("\"[^\"\n]*\"", "\"\"").replaceAll("'[^'\n]+'", "' '");
        for (String word : List.of("throw", "throws", "try", "catch", "finally", "synchronized", "assert", "package", "var",
            "Exception", "Error", "Object", "Random", "System\\.(?!arraycopy)\\w+", "\\w+Exact", "Thread", "native", "enum")) {
            due("no " + word, !Pattern.compile("\\b" + word + "\\b").matcher(bare).find());
        }
        due("no lambda, no reference", !bare.contains("->") && !bare.contains("::"));
        due("no joining by +", !bare.contains("\"\" +") && !bare.contains("+ \"\""));
        due("no loop without an end", !Pattern.compile("while \\(true\\)|for \\(;;\\)").matcher(bare).find());
        Matcher imports = Pattern.compile("import ([\\w.]+);").matcher(bare);
        while (imports.find()) {
            due("import " + imports.group(1), List.of("java.util.Arrays", "java.util.ArrayList", "java.util.List")
                .contains(imports.group(1)));
        }
        methodsAreShort(text);
    }

    private static void methodsAreShort(String text) {
        String[] lines = text.split("\n");
        int from = -1;
        String indent = "";
        for (int n = 0; n < lines.length; n++) {
            Matcher head = Pattern.compile("^(    (?:    )?)(?! )(?!.*class ).*\\) \\{$").matcher(lines[n]);
            if (from < 0 && head.find()) {
                from = n;
                indent = head.group(1);
            } else if (from >= 0 && lines[n].equals(indent + "}")) {
                due("short: " + lines[from].trim(), n - from + 1 <= 60);
                from = -1;
            }
        }
    }

    /** What the compiled classes call of other classes, as their tables of constants tell it. */
    private static void library() throws IOException {
        List<Class<?>> classes = new ArrayList<>(List.of(SymmetryTax.class));
        classes.addAll(List.of(SymmetryTax.class.getDeclaredClasses()));
        for (Class<?> k : classes) {
            try (DataInputStream in = new DataInputStream(k.getResourceAsStream(k.getName() + ".class"))) {
                for (String called : calledBy(in)) {
                    due(k + " calls " + called, called.startsWith("SymmetryTax") || LIBRARY.contains(called));
                }
            }
        }
    }

    private static List<String> calledBy(DataInputStream in) throws IOException {
        in.skipBytes(8);
        int size = in.readUnsignedShort();
        String[] texts = new String[size];
        int[] kinds = new int[size];
        int[] first = new int[size];
        int[] second = new int[size];
        for (int n = 1; n < size; n++) {
            kinds[n] = in.readUnsignedByte();
            switch (kinds[n]) {
                case 1 -> texts[n] = in.readUTF();
                case 3, 4 -> in.readInt();
                case 5, 6 -> {
                    in.readLong();
                    n++;
                }
                case 7, 8, 16, 19, 20 -> first[n] = in.readUnsignedShort();
                case 15 -> {
                    in.readUnsignedByte();
                    in.readUnsignedShort();
                }
                default -> {
                    first[n] = in.readUnsignedShort();
                    second[n] = in.readUnsignedShort();
                }
            }
        }
        List<String> called = new ArrayList<>();
        for (int n = 1; n < size; n++) {
            if (kinds[n] == 10 || kinds[n] == 11) {
                called.add(texts[first[first[n]]] + "." + texts[first[second[n]]]);
            }
            due("nothing is joined or bound as it runs", kinds[n] != 17 && kinds[n] != 18);
        }
        return called;
    }

    /** Objects and arrays (0), fields and elements (1) that hang on an object. */
    private static void count(Object o, Set<Object> seen, long[] sums) throws IllegalAccessException {
        if (o == null || !seen.add(o)) {
            return;
        }
        sums[0]++;
        Class<?> c = o.getClass();
        if (c.isArray()) {
            int length = Array.getLength(o);
            sums[1] += length;
            for (int n = 0; n < length && !c.getComponentType().isPrimitive(); n++) {
                count(Array.get(o, n), seen, sums);
            }
            return;
        }
        for (Field f : c.getDeclaredFields()) {
            if (!Modifier.isStatic(f.getModifiers())) {
                sums[1]++;
                f.setAccessible(true);
                if (!f.getType().isPrimitive()) {
                    count(f.get(o), seen, sums);
                }
            }
        }
    }

    /** Even a run that does nothing but make objects finds room. */
    private static void roomOfAnObject() throws IllegalAccessException {
        long[] sums = new long[2];
        count(new SymmetryTax(), Collections.newSetFromMap(new IdentityHashMap<>()), sums);
        due("as many objects as calls find room: " + sums[0] + " objects each", sums[0] * MOST_CALLS < ROOM_OBJECTS);
        due("as many objects as calls find room: " + sums[1] + " elements each", sums[1] * MOST_CALLS < ROOM_ELEMENTS);
    }

    /** Laws are all that calls make again and again; an image is made once. */
    private static void roomOfLaws() {
        SymmetryTax x = new SymmetryTax();
        x.image(0);
        x.image(1);
        long before = made();
        for (int n = 0; n < MOST_CALLS / 3; n++) {
            // "tax 1+1+1+1+1+1+1+11"
            x.feed(0x74617820, 0x312b312b, 0x312b312b, 0x312b312b, 0x312b3131);
            due("a law is kept", x.law() == 0);
            x.back(0);
            x.image(1);
        }
        due("laws and images take little room", made() - before < 400_000);
    }

    private static long made() {
        return ((com.sun.management.ThreadMXBean) ManagementFactory.getThreadMXBean())
            .getThreadAllocatedBytes(Thread.currentThread().getId());
    }

    /** Calls take no room, but for laws: what is made is made with the object. */
    private static void room() {
        long start = made();
        SymmetryTax x = new SymmetryTax();
        due("an object takes less than 200,000 bytes", made() - start < 200_000);
        for (int t = 0; t < 6; t++) {
            x.thing(4, 4, t);
            x.hole(t, t % 4, 1, 1);
            x.place(t, t);
        }
        long before = made();
        for (int n = 0; n < 400; n++) {
            x.paint(n % 6, n % 4, n % 3, n % 10);
            x.owes(-1);
            x.free(n % 6, n % 10, 0);
            x.fills(n % 6, 4, 10);
            x.best(0);
            x.daub(n, 3);
            x.ruler(0, 5, 2);
            x.quite(0, 5);
            x.order(n % 6);
            x.image(0);
            x.back(0);
            x.feed(1, 2, 3, 4, 5);
            x.law();
            x.feed(1, 2, 3, 4, 5);
            x.row();
        }
        due("calls take no room", made() - before < 100_000);
    }

    public static void main(String[] args) throws IOException, IllegalAccessException {
        face();
        source();
        library();
        room();
        roomOfAnObject();
        roomOfLaws();
        System.out.println(wrong == 0 ? "the language is kept" : wrong + " rules are not kept");
        if (wrong != 0) {
            System.exit(1);
        }
    }
}
