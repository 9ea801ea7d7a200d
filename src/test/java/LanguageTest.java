import java.io.IOException;
import java.nio.charset.StandardCharsets;
import java.nio.file.Files;
import java.nio.file.Path;
import java.util.Set;
import java.util.TreeSet;
import java.util.regex.Matcher;
import java.util.regex.Pattern;

/** The rules of LANGUAGE.md that can be seen in the text of the program; run from the project's root. */
public final class LanguageTest {
    public static void main(String[] args) throws IOException {
        String text = Files.readString(Path.of("src/main/java/BirdForge.java"), StandardCharsets.UTF_8);
        Check.yes("signs 10 to 126 only", text.chars().allMatch(c -> c == 10 || c >= 32 && c <= 126));
        String code = text.replaceAll("(?s)/\\*.*?\\*/", "").replaceAll("//[^\n]*", "");
        imports(code);
        throwing(code);
        String bare = code.replaceAll("\"[^\"\n]*\"", "\"\"").replaceAll("'[^'\n]*'", "' '");
        absent(bare);
        library(bare);
        classes(bare);
        methodLengths(bare);
        Check.finish();
    }

    private static Set<String> all(String pattern, String text) {
        Set<String> found = new TreeSet<>();
        Matcher matcher = Pattern.compile(pattern).matcher(text);
        while (matcher.find()) {
            found.add(matcher.group(1));
        }
        return found;
    }

    private static void imports(String code) {
        Check.same("imports", Set.of("java.util.NoSuchElementException"), all("import\\s+([^;]+);", code));
        Check.same("no package", false, code.contains("package "));
    }

    private static void throwing(String code) {
        Set<String> allowed = Set.of("IllegalStateException", "IllegalArgumentException",
                "IndexOutOfBoundsException", "ArithmeticException", "UnsupportedOperationException",
                "NoSuchElementException", "RuntimeException");
        Set<String> thrown = all("throw\\s+([^;]*);", code);
        for (String one : thrown) {
            Check.yes("a plain throw: " + one, one.matches("new \\w+\\((\"[^\"]*\")?\\)"));
            Check.yes("an allowed exception: " + one, allowed.contains(one.replaceAll("new (\\w+).*", "$1")));
        }
    }

    private static void absent(String bare) {
        String[] words = {"try", "catch", "finally", "synchronized", "assert", "native", "volatile", "transient",
            "var", "hashCode", "toString", "getClass", "yield", "super", "Object", "Exact"};
        for (String word : words) {
            Check.same("without " + word, false, Pattern.compile("\\b" + word + "\\b").matcher(bare).find());
        }
        Check.same("no lambda", false, bare.contains("->"));
        Check.same("no method reference", false, bare.contains("::"));
        Check.same("no joining by +", false, bare.contains("\"\" +") || bare.contains("+ \"\""));
        Check.same("no static initialiser", false, Pattern.compile("static\\s*\\{").matcher(bare).find());
        Check.same("static fields are final", Set.of(),
                all("(static (?!final|\\w+ \\w+\\(|class|enum)[^(;=]*[;=])", bare));
    }

    private static void library(String bare) {
        Check.same("Math", Set.of("max", "min"), all("Math\\.(\\w+)", bare));
        Set<String> calls = all("\\b(System|Integer|Long|Character|String|Arrays|Thread|Runtime)\\.", bare);
        Check.same("no other library class", Set.of(), calls);
        Check.same("of the builder and texts", Set.of("append", "charAt", "length", "setLength"),
                all("\\b(?:out|line|shape|word|\\))\\.(append|charAt|length|setLength|\\w+)\\(", bare));
    }

    private static void classes(String bare) {
        Set<String> names = all("\\b(?:class|enum|interface|record)\\s+(\\w+)", bare);
        Check.yes("at most 12 classes", names.size() <= 12);
        for (String declaration : all("\n    ([^\n]*\\b(?:class|interface)\\s+\\w+)", bare)) {
            Check.yes("private and static: " + declaration, declaration.startsWith("private static "));
        }
    }

    private static void methodLengths(String bare) {
        String[] lines = bare.split("\n");
        int start = -1;
        String end = "";
        for (int i = 0; i < lines.length; i++) {
            Matcher method = Pattern.compile("^( {4}| {8})(?! )[^=;]*\\)? *(throws [^{]*)?\\{$").matcher(lines[i]);
            if (start < 0 && method.find() && !lines[i].matches(".*\\b(class|enum)\\b.*")) {
                start = i;
                end = method.group(1) + "}";
            } else if (start >= 0 && lines[i].equals(end)) {
                Check.yes("a short method at line " + (start + 1), i - start < 60);
                start = -1;
            }
        }
    }
}
