import java.io.IOException;
import java.nio.file.Files;
import java.nio.file.Path;
import java.util.ArrayList;
import java.util.Comparator;
import java.util.List;
import java.util.concurrent.TimeUnit;
import java.util.regex.Matcher;
import java.util.regex.Pattern;
import java.util.stream.Stream;

/** Each example of README.md answers as it says: its blocks are taken out, compiled and run. */
public final class ReadmeTest {
    private static final Path MAIN = Path.of("src/main/java/SymmetryTax.java");
    /** A call with its answer behind it; "int t = " may stand ahead. */
    private static final Pattern CALL = Pattern.compile("(int \\w+ = )?(x\\.\\w+\\(.*\\)); +// (-?\\d+)(?:: .+)?");
    private static final int LEAST_CALLS = 60;
    private static int wrong = 0;

    private record Block(String kind, List<String> lines) {
        String text() {
            return String.join("\n", lines) + "\n";
        }
    }

    private static void due(String what, boolean so) {
        if (!so) {
            wrong++;
            System.out.println("not so: " + what);
        }
    }

    private static List<Block> blocks(List<String> page) {
        List<Block> all = new ArrayList<>();
        Block open = null;
        for (String line : page) {
            if (!line.startsWith("```")) {
                if (open != null) {
                    open.lines.add(line);
                }
            } else if (open == null) {
                open = new Block(line.substring(3), new ArrayList<>());
            } else {
                all.add(open);
                open = null;
            }
        }
        due("each block has an end", open == null);
        return all;
    }

    private static List<Block> of(List<Block> all, String kind) {
        return all.stream().filter(b -> b.kind.equals(kind)).toList();
    }

    /** What the page says stands there, but what is made by its own commands. */
    private static void paths(String page) {
        Matcher named = Pattern.compile("(?:\\.\\./shared|src|\\.ci)/[\\w/.]*\\w").matcher(page);
        while (named.find()) {
            due(named.group() + " is there", Files.exists(Path.of(named.group())));
        }
    }

    /** Every call of the face that can be named there is one. */
    private static void names(String page) {
        List<String> face = Stream.of(SymmetryTax.class.getMethods()).map(m -> m.getName()).toList();
        Matcher called = Pattern.compile("\\bx\\.(\\w+)\\(|`(\\w+)\\(").matcher(page);
        while (called.find()) {
            String name = called.group(1) != null ? called.group(1) : called.group(2);
            due(name + " is in the face", face.contains(name));
        }
    }

    /** The blocks as one program that says each call whose answer is another one. */
    private static String program(List<Block> runs) {
        StringBuilder text = new StringBuilder("public final class Page {\n"
            + "    private static int wrong = 0;\n"
            + "    private static int due(String call, int got, int want) {\n"
            + "        if (got != want) { wrong++; System.out.println(call + \" answered \" + got + \", README says \" + want); }\n"
            + "        return got;\n"
            + "    }\n"
            + "    public static void main(String[] args) {\n");
        int calls = 0;
        for (Block run : runs) {
            text.append("        {\n");
            for (String line : run.lines) {
                Matcher call = CALL.matcher(line);
                if (call.matches()) {
                    calls++;
                    String head = call.group(1) == null ? "" : call.group(1);
                    text.append(head).append("due(\"").append(call.group(2)).append("\", ").append(call.group(2))
                        .append(", ").append(call.group(3)).append(");\n");
                } else {
                    due("a line that makes an object, or a call with its answer: " + line,
                        line.equals("SymmetryTax x = new SymmetryTax();"));
                    text.append(line).append("\n");
                }
            }
            text.append("        }\n");
        }
        due("calls in examples: " + calls, calls >= LEAST_CALLS);
        return text.append("        System.exit(wrong == 0 ? 0 : 1);\n    }\n}\n").toString();
    }

    private static String sh(Path where, String commands, boolean[] well) throws IOException, InterruptedException {
        Path out = where.resolve("printed.txt");
        Process p = new ProcessBuilder("sh", "-e", "-c", commands).directory(where.toFile())
            .redirectErrorStream(true).redirectOutput(out.toFile()).start();
        well[0] = p.waitFor(300, TimeUnit.SECONDS) && p.exitValue() == 0;
        return Files.readString(out);
    }

    /** A program of the page, with the commands that the page has for it. */
    private static void example(Path where, Block program, Block commands, Block printed)
            throws IOException, InterruptedException {
        Files.writeString(where.resolve("Example.java"), program.text());
        boolean[] well = new boolean[1];
        String got = sh(where, commands.text(), well);
        due("the example runs and prints what README says, not: " + got, well[0] && got.equals(printed.text()));
    }

    private static void calls(Path where, List<Block> runs) throws IOException, InterruptedException {
        Files.writeString(where.resolve("Page.java"), program(runs));
        boolean[] well = new boolean[1];
        String got = sh(where, "javac -d page " + MAIN + " Page.java\njava -cp page Page", well);
        due("the calls answer as README says\n" + got, well[0]);
    }

    private static void remove(Path where) throws IOException {
        try (Stream<Path> all = Files.walk(where)) {
            for (Path p : all.sorted(Comparator.reverseOrder()).toList()) {
                Files.delete(p);
            }
        }
    }

    public static void main(String[] args) throws IOException, InterruptedException {
        String page = Files.readString(Path.of("README.md"));
        List<Block> all = blocks(page.lines().toList());
        List<Block> java = of(all, "java");
        List<Block> programs = java.stream().filter(b -> b.text().contains("class Example")).toList();
        List<Block> runs = java.stream().filter(b -> !b.text().contains("class ")).toList();
        due("one program, and runs", programs.size() == 1 && runs.size() == java.size() - 1 && !runs.isEmpty());
        due("commands and what is printed", !of(all, "sh").isEmpty() && of(all, "text").size() == 1);
        paths(page);
        names(page);
        Path where = Files.createTempDirectory("readme");
        try {
            Files.createDirectories(where.resolve(MAIN).getParent());
            Files.copy(MAIN, where.resolve(MAIN));
            if (wrong == 0) {
                example(where, programs.get(0), of(all, "sh").get(0), of(all, "text").get(0));
                calls(where, runs);
            }
        } finally {
            remove(where);
        }
        System.out.println(wrong == 0 ? "README.md says what is so" : wrong + " things in README.md are not so");
        if (wrong != 0) {
            System.exit(1);
        }
    }
}
