import java.io.ByteArrayOutputStream;
import java.io.PrintStream;
import java.net.URL;
import java.net.URLClassLoader;
import java.nio.file.Files;
import java.nio.file.Path;
import java.util.ArrayList;
import java.util.Comparator;
import java.util.List;
import java.util.Map;
import java.util.regex.Matcher;
import java.util.regex.Pattern;
import java.util.stream.Stream;
import javax.tools.ToolProvider;

/** Holds README.md against the document's face, the list of tests, and what its own program prints. */
public final class ReadmeTest {
    /** The words by which the tables of README.md tell the exceptions. */
    private static final Map<String, String> WORDS = Map.of("slot", "IndexOutOfBoundsException",
            "none", "NoSuchElementException", "number", "NumberFormatException", "state", "IllegalStateException",
            "argument", "IllegalArgumentException", "unsupported", "UnsupportedOperationException");

    private static int wrong = 0;

    public static void main(String[] args) throws Exception {
        String page = Files.readString(Path.of("README.md"));
        words(page);
        int calls = calls(page, Files.readString(Path.of("../shared/DOC.md")));
        tests(page);
        program(page);
        System.out.println(calls + " calls of the face looked for in README.md, " + wrong + " faults");
        System.exit(wrong == 0 ? 0 : 1);
    }

    private static void fault(String told) {
        wrong++;
        System.out.println(told);
    }

    private static List<String[]> rows(String page) {
        List<String[]> rows = new ArrayList<>();
        for (String line : page.split("\n")) {
            if (line.startsWith("| ")) {
                String[] cells = line.substring(1).split("\\|", -1);
                rows.add(Stream.of(cells).map(cell -> cell.replace("`", "").trim()).toArray(String[]::new));
            }
        }
        return rows;
    }

    private static void words(String page) {
        for (Map.Entry<String, String> word : WORDS.entrySet()) {
            if (rows(page).stream().noneMatch(row -> row[0].equals(word.getKey()) && row[1].equals(word.getValue()))) {
                fault("README.md does not tell the word " + word);
            }
        }
    }

    /** Each call of the face has one row, with its exceptions in the face's order, and no other call has one. */
    private static int calls(String page, String document) {
        List<String> due = new ArrayList<>();
        Matcher call = Pattern.compile("(?m)^ +public (\\w+ \\w+\\(.*?\\))(?: throws (.*))?;$").matcher(document);
        while (call.find()) {
            due.add(call.group(1) + " throws " + (call.group(2) == null ? "" : call.group(2)));
        }
        List<String> told = new ArrayList<>();
        for (String[] row : rows(page)) {
            if (row[0].matches("\\w+ \\w+\\(.*\\)")) {
                told.add(row[0] + " throws " + exceptions(row[2]));
            }
        }
        if (due.size() != 53 || !told.equals(due)) {
            due.stream().filter(one -> !told.contains(one)).forEach(one -> fault("not in README.md: " + one));
            told.stream().filter(one -> !due.contains(one)).forEach(one -> fault("not in DOC.md: " + one));
            fault(told.size() + " rows for " + due.size() + " calls, each once and in the face's order");
        }
        return due.size();
    }

    private static String exceptions(String cell) {
        List<String> names = new ArrayList<>();
        for (String part : cell.isEmpty() ? new String[0] : cell.split("; ")) {
            names.add(WORDS.getOrDefault(part.split(":")[0], "'" + part + "'"));
        }
        return String.join(", ", names);
    }

    private static void tests(String page) throws Exception {
        try (Stream<Path> files = Files.list(Path.of("src/test/java"))) {
            files.map(file -> file.getFileName().toString().replace(".java", ""))
                    .filter(name -> !page.contains("`" + name + "`"))
                    .forEach(name -> fault("README.md does not tell of " + name));
        }
    }

    private static String block(String page, String kind) {
        Matcher block = Pattern.compile("(?s)```" + kind + "\n(.*?)```").matcher(page);
        return block.find() ? block.group(1) : "";
    }

    private static void program(String page) throws Exception {
        Path folder = Files.createTempDirectory("readme");
        try {
            Path file = Files.writeString(folder.resolve("Example.java"), block(page, "java"));
            int failed = ToolProvider.getSystemJavaCompiler().run(null, null, null, "-proc:none",
                    "-cp", System.getProperty("java.class.path"), "-sourcepath", "src/main/java",
                    "-d", folder.toString(), file.toString());
            String due = block(page, "text");
            String got = failed == 0 ? printed(folder) : "";
            if (got.isEmpty() || !got.equals(due)) {
                fault("the program of README.md prints:\n" + got + "and not:\n" + due);
            }
        } finally {
            delete(folder);
        }
    }

    private static String printed(Path folder) throws Exception {
        PrintStream out = System.out;
        ByteArrayOutputStream got = new ByteArrayOutputStream();
        try (URLClassLoader loader = new URLClassLoader(new URL[] {folder.toUri().toURL()})) {
            System.setOut(new PrintStream(got, true));
            loader.loadClass("Example").getMethod("main", String[].class).invoke(null, (Object) new String[0]);
        } finally {
            System.setOut(out);
        }
        return got.toString().replace(System.lineSeparator(), "\n");
    }

    private static void delete(Path folder) throws Exception {
        try (Stream<Path> files = Files.walk(folder)) {
            for (Path file : files.sorted(Comparator.reverseOrder()).toList()) {
                Files.delete(file);
            }
        }
    }
}
