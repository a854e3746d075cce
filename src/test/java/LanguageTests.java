import java.io.IOException;
import java.nio.file.Files;
import java.nio.file.Path;
import java.util.ArrayList;
import java.util.List;
import java.util.regex.Matcher;
import java.util.regex.Pattern;

/** Looks at the program's text for what ../shared/LANGUAGE.md leaves out. It finds slips, and proves nothing. */
public final class LanguageTests {
    private static final String[] LEFT_OUT = {"->", "::", "synchronized", "assert ", "finally", "catch", "Exact(",
        "instanceof", "hashCode", "Object", "while (true)", "for (;;)", "var ", "record ", "protected ", "package ",
        "import java.util.stream", "static {", "String.format", "Integer.valueOf", "(Integer)", "double[", "switch"};
    private static final Pattern METHOD =
            Pattern.compile("^(    |        )(?:(?:public|private|static|final|abstract) )*[\\w\\[\\]<>]+ (\\w+)\\(([^;]*)$");
    private static final Pattern LIBRARY = Pattern.compile("\\b(Math|Long|Integer|Arrays|System|List)\\.(\\w+)");
    private static final List<String> CALLS = List.of("Math.min", "Math.max", "Long.bitCount", "Integer.bitCount",
            "Arrays.fill", "Arrays.copyOf", "System.arraycopy");

    private static int wrong;

    public static void main(String[] args) throws IOException {
        List<String> lines = Files.readAllLines(Path.of("src/main/java/GrammarwrightHall.java"));
        List<String> open = new ArrayList<>();
        List<String> others = new ArrayList<>();
        int classes = 0;
        int begun = -1;
        for (int i = 0; i < lines.size(); i++) {
            String line = lines.get(i);
            String code = line.strip().startsWith("*") || line.strip().startsWith("/") ? "" : line;
            for (String none : LEFT_OUT) {
                check(!code.contains(none), i, "has " + none);
            }
            check(!Pattern.compile("[^ -~]").matcher(line).find(), i, "has a sign beyond 127");
            Matcher call = LIBRARY.matcher(code);
            while (call.find()) {
                check(CALLS.contains(call.group()), i, "calls " + call.group());
            }
            classes += code.contains(" class ") ? 1 : 0;
            Matcher method = METHOD.matcher(code);
            if (method.find() && !code.contains(" = ") && !code.contains("return ")) {
                (code.startsWith("    public ") ? open : others).add(method.group(2));
                begun = i;
                check(method.group(3).split(",").length <= 7, i, "has too many parameters");
            }
            if (begun >= 0 && (code.equals("    }") || code.equals("        }"))) {
                check(i - begun < 60, i, "ends a method of " + (i - begun) + " lines");
                begun = -1;
            }
        }
        check(classes <= 12, 0, "has " + classes + " classes");
        check(open.size() == 43, 0, "has " + open.size() + " public methods and constructors");
        for (String name : others) {
            check(!open.contains(name), 0, "has a private method with the public name " + name);
        }
        checkFace(lines);
        System.out.println(open.size() + " public and " + others.size() + " other methods, " + wrong + " wrong");
        if (wrong > 0) {
            System.exit(1);
        }
    }

    /** Each line of the document's face stands in the program with the same types, names and exceptions. */
    private static void checkFace(List<String> lines) throws IOException {
        String program = String.join(" ", lines).replaceAll("\\s+", " ");
        List<String> document = Files.readAllLines(Path.of("../shared/DOC.md"));
        int begin = document.indexOf("public final class GrammarwrightHall {");
        int end = document.subList(begin, document.size()).indexOf("}") + begin;
        check(begin > 0 && program.contains(document.get(begin)), 0, "has not the class of the document");
        check(end - begin == 44, 0, "is held against a face of " + (end - begin) + " lines");
        for (String face : document.subList(begin + 1, end)) {
            String due = face.strip().replace(";", " {");
            check(program.contains(due), 0, "has not " + due);
        }
    }

    private static void check(boolean fine, int line, String what) {
        if (!fine) {
            wrong++;
            System.out.println("line " + (line + 1) + " " + what);
        }
    }
}
