import java.nio.file.Files;
import java.nio.file.Path;
import java.util.ArrayList;
import java.util.List;
import java.util.Set;
import java.util.TreeSet;
import java.util.regex.Matcher;
import java.util.regex.Pattern;

/** Holds the text of the class against those rules of LANGUAGE.md that can be seen by plain looking. */
public final class LanguageTest {
    private static final Set<String> THROWN = Set.of("IllegalStateException", "IllegalArgumentException",
            "IndexOutOfBoundsException", "NoSuchElementException", "UnsupportedOperationException",
            // Not in rule 6, but promise 13 names it, and issue 8 says that it stands so: NOTES.md.
            "NumberFormatException");

    /** The only lines that may bear the name that rule 6 leaves out: the face's own, and the throw behind it. */
    private static final List<String> NAMED_OFF_THE_LIST = List.of(
            "throws IndexOutOfBoundsException, NumberFormatException, IllegalArgumentException {",
            "throw new NumberFormatException(\"the text is no number\");");

    private static final Set<String> LIBRARY = Set.of("Math.min", "Math.floorMod", "Math.floorDiv",
            "Integer.compare", "Integer.bitCount", "System.arraycopy", "Arrays.fill");

    private static final String[] FORBIDDEN = {"->", "::", "\\bcatch\\b", "\\bfinally\\b", "\\btry\\b",
        "\\bsynchronized\\b", "\\bassert\\b", "\\bnative\\b", "\\bvolatile\\b", "\\bvar\\b", "@\\w+",
        "\"\\s*\\+", "\\+\\s*\"", "\\bfloat\\b", "\\bdouble\\b", "\\bObject\\b", "^package\\b", "\\bequals\\s*\\(",
        "\\bhashCode\\b", "\\btoString\\b", "\\bstatic\\s*\\{", "\\[\\]\\[\\]\\["};

    private static int wrong = 0;

    public static void main(String[] args) throws Exception {
        String code = Files.readString(Path.of("src/main/java/ArrangementCabinet.java"));
        if (!code.chars().allMatch(sign -> sign == '\n' || sign >= ' ' && sign <= '~')) {
            fault("a sign outside 32 to 126");
        }
        code = code.replaceAll("(?s)/\\*.*?\\*/", "").replaceAll("//[^\n]*", "");
        for (String pattern : FORBIDDEN) {
            Matcher matcher = Pattern.compile(pattern, Pattern.MULTILINE).matcher(code);
            if (matcher.find()) {
                fault("forbidden: " + matcher.group());
            }
        }
        due("imports", found(code, "import ([\\w.]+);"),
                Set.of("java.util.Arrays", "java.util.NoSuchElementException"));
        due("thrown", found(code, "throw new (\\w+)\\(\"[^\"]*\"\\);"), THROWN);
        if (found(code, "throw ").size() > 0 && count(code, "\\bthrow\\b") != count(code, "throw new \\w+\\(\"")) {
            fault("a throw of another form");
        }
        List<String> named = code.lines().map(String::trim).filter(line -> line.contains("NumberFormat")).toList();
        if (!named.equals(NAMED_OFF_THE_LIST)) {
            fault("NumberFormatException stands in " + named);
        }
        due("library", found(code, "\\b((?:Math|Integer|Long|System|Arrays|String|Character)\\.\\w+)"), LIBRARY);
        for (String field : found(code, "(?m)^\\s*(?:private )?static ((?!final)\\w+ \\w+) *[=;]")) {
            fault("a static field that is not final: " + field);
        }
        methods(code);
        System.out.println("the class's text has " + wrong + " faults");
        System.exit(wrong == 0 ? 0 : 1);
    }

    private static void fault(String told) {
        wrong++;
        System.out.println(told);
    }

    private static void due(String what, Set<String> got, Set<String> due) {
        if (!got.equals(new TreeSet<>(due))) {
            fault(what + ": " + got + ", due is " + due);
        }
    }

    private static Set<String> found(String code, String pattern) {
        Set<String> found = new TreeSet<>();
        Matcher matcher = Pattern.compile(pattern).matcher(code);
        while (matcher.find()) {
            found.add(matcher.group(matcher.groupCount()));
        }
        return found;
    }

    private static int count(String code, String pattern) {
        return (int) Pattern.compile(pattern).matcher(code).results().count();
    }

    /** Rule 11: a method's lines and parameters. A method begins in column 4 or 8, and ends there. */
    private static void methods(String code) {
        List<String> lines = new ArrayList<>(List.of(code.split("\n")));
        Pattern head = Pattern.compile("^( {4}| {8})(?! )(?!return|throw|if|for|while|else).*\\w\\(([^()]*)\\).*\\{$");
        for (int line = 0; line < lines.size(); line++) {
            Matcher matcher = head.matcher(lines.get(line));
            if (matcher.matches()) {
                int end = lines.subList(line, lines.size()).indexOf(matcher.group(1) + "}");
                if (end > 60 || matcher.group(2).split(",").length > 7) {
                    fault("too long: " + lines.get(line).trim());
                }
            }
        }
    }
}
