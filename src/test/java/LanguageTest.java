import java.io.IOException;
import java.nio.charset.StandardCharsets;
import java.nio.file.Files;
import java.nio.file.Path;
import java.util.List;
import java.util.regex.Matcher;
import java.util.regex.Pattern;

/** What of LANGUAGE.md can be seen in the program's text: forbidden words and signs, imports, the methods' lengths. */
public final class LanguageTest {
    private static final Path PROGRAM = Path.of("src/main/java/TickGarden.java");
    private static final List<String> FORBIDDEN = List.of(
            "\\bthrows?\\b", "\\btry\\b", "\\bcatch\\b", "\\bsynchronized\\b", "\\bassert\\b", "->", "::",
            "\\bpackage\\b", "\\bSystem\\.(?!arraycopy)", "\\bRandom\\b", "\\bThread\\b", "Exact\\(", "\"", "\\bprotected\\b",
            "\\bhashCode\\b", "\\btoString\\b", "\\bequals\\b", "\\bstatic\\s*\\{", "\\bwhile\\s*\\(\\s*true");
    private static final int MOST_LINES = 60;

    private static int wrong = 0;

    private static void tell(String what) {
        wrong++;
        System.out.println(what);
    }

    private static String withoutComments(String text) {
        return Pattern.compile("/\\*.*?\\*/", Pattern.DOTALL).matcher(text).replaceAll("").replaceAll("//[^\n]*", "");
    }

    private static void lookForWords(String code) {
        for (String word : FORBIDDEN) {
            Matcher found = Pattern.compile(word).matcher(code);
            if (found.find()) {
                tell("the program has " + found.group());
            }
        }
        Matcher imported = Pattern.compile("import\\s+([^;]+);").matcher(code);
        while (imported.find()) {
            if (!List.of("java.util.Arrays", "java.util.ArrayList", "java.util.List").contains(imported.group(1))) {
                tell("the program imports " + imported.group(1));
            }
        }
    }

    private static void lookAtMethods(String text) {
        int from = -1;
        String[] lines = text.split("\n", -1);
        for (int i = 0; i < lines.length; i++) {
            if (lines[i].matches("\\s+[\\w\\[\\] ]+\\([^;]*\\) \\{") && !lines[i].matches("\\s+(if|for|while|switch)\\b.*")) {
                from = i;
                if (lines[i].chars().filter(sign -> sign == ',').count() >= 7) {
                    tell("line " + (i + 1) + ": more than seven parameters");
                }
            }
            if (from >= 0 && lines[i].matches(" {4}( {4})?\\}")) {
                if (i - from + 1 > MOST_LINES) {
                    tell("line " + (from + 1) + ": a method of " + (i - from + 1) + " lines");
                }
                from = -1;
            }
        }
    }

    public static void main(String[] args) throws IOException {
        String text = Files.readString(PROGRAM, StandardCharsets.US_ASCII);
        lookForWords(withoutComments(text));
        lookAtMethods(text);
        System.out.println(wrong == 0 ? "the language is as due" : wrong + " things of the language are not as due");
        if (wrong != 0) {
            System.exit(1);
        }
    }
}
