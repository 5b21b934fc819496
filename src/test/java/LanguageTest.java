import java.io.IOException;
import java.nio.file.Files;
import java.nio.file.Path;
import java.util.regex.Matcher;
import java.util.regex.Pattern;

/** Those rules of LANGUAGE.md that can be seen in the text of the class; rules 1 and 5 stand in FaceTest too. */
final class LanguageTest {
    private static final int MOST_LINES = 60;
    private static final int MOST_PARAMETERS = 7;
    private static final String REFUSALS = "(NoSuchElement|IllegalArgument)Exception";

    public static void main(String[] args) throws IOException {
        String text = Files.readString(Path.of("src/main/java/NoiseRing.java"));
        String code = text.replaceAll("(?s)/\\*.*?\\*/", "").replaceAll("//[^\n]*", "");
        onlyKnownNames(code);
        noForbiddenWords(code.replaceAll("\"[^\"]*\"", "\"\""));
        objectsAreMadeInTheConstructor(code);
        refusals(code);
        shortMethods(code);
        Check.end("LanguageTest");
    }

    private static void all(String rule, String code, String found, String due) {
        Matcher each = Pattern.compile(found).matcher(code);
        while (each.find()) {
            Check.yes(rule + ": " + each.group(), each.group().matches(due));
        }
    }

    private static void onlyKnownNames(String code) {
        Check.no("one file without a package", code.contains("package "));
        all("rule 4, imports", code, "import [^\n]*", "import java\\.util\\.NoSuchElementException;");
        all("rule 4, the library", code, "\\b[A-Z]\\w*[a-z]\\w*\\.\\w+",
            "Math\\.(floorMod|min|max)|System\\.arraycopy");
    }

    private static void noForbiddenWords(String code) {
        for (String word : new String[] {"->", "::", "static \\{", "\\bfinally\\b", "\\bsynchronized\\b",
            "\\bassert\\b", "Exact\\(", "\\bvolatile\\b", "\\bnative\\b"}) {
            Check.no("the class does without " + word, Pattern.compile(word).matcher(code).find());
        }
    }

    /** What a run makes is counted: rows are made once, and a call makes nothing but what it throws. */
    private static void objectsAreMadeInTheConstructor(String code) {
        String maker = code.replaceAll("(?s).*?(public NoiseRing\\(\\) \\{.*?\n    \\}\n).*", "$1");
        Check.yes("the constructor is found", maker.startsWith("public NoiseRing()") && maker.length() < 300);
        all("rule 12", code.replace(maker, ""), "\\bnew [^\n]*", "new " + REFUSALS + "\\(\".*");
        all("rule 5", code, "(?m)^    private static final [^\n]*", ".* = (-?\\d+|\\{[\\d, ]+\\});");
    }

    private static void refusals(String code) {
        all("rule 6", code, "\\bthrow [^\n]*", "throw new " + REFUSALS + "\\(\"[^\"]*\"\\);");
    }

    private static void shortMethods(String code) {
        Matcher method = Pattern.compile("(?s)\n    (?:public|private)[^;={]*?\\(([^)]*)\\)[^;={]*\\{.*?\n    \\}")
            .matcher(code);
        int found = 0;
        while (method.find()) {
            found++;
            String head = method.group().strip().split("\n")[0];
            Check.yes("rule 11, short: " + head, method.group().split("\n").length <= MOST_LINES);
            Check.yes("rule 11, parameters: " + head, method.group(1).split(",").length <= MOST_PARAMETERS);
        }
        int due = NoiseRing.class.getDeclaredMethods().length + 1;
        Check.same("methods and constructors looked at", found, due);
    }
}
