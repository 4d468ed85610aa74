import java.io.IOException;
import java.nio.file.Files;
import java.nio.file.Paths;
import java.util.regex.Matcher;
import java.util.regex.Pattern;

/** Rules of LANGUAGE.md that the text of the program shows; run from the project's folder. */
public final class LanguageTest {
    private static final String[] NEVER = {
        "\\bimport\\b", "\\bpackage\\b", "->", "::", "@", "\\btry\\b", "\\bcatch\\b", "\\bfinally\\b", "\\bthrows?\\b",
        "\\bsynchronized\\b", "\\bassert\\b", "\\bvar\\b", "\\bvolatile\\b", "\\btransient\\b", "\\bnative\\b",
        "\\bfloat\\b", "\\bdouble\\b", "\\bObject\\b", "\\bString\\b", "\\bStringBuilder\\b", "\\w+Exact\\b",
        "\\bstatic\\s*\\{", "\\bequals\\b", "\\bhashCode\\b", "\\btoString\\b", "\\bgetClass\\b", "\"",
        "\\bSystem\\.(?!arraycopy\\b)", "\\bMath\\.(?!min\\b|max\\b)", "\\bprotected\\b", "\\bjava\\."};

    public static void main(String[] args) throws IOException {
        String source = Files.readString(Paths.get("src/main/java/OtherSide.java"));
        for (int i = 0; i < source.length(); i++) {
            if (source.charAt(i) > 126) {
                Check.so("sign " + (int) source.charAt(i) + " at " + i, false);
            }
        }
        String code = source.replaceAll("(?s)/\\*.*?\\*/", "").replaceAll("//[^\n]*", "").replaceAll("'\\\\?.'", "' '");
        for (String never : NEVER) {
            Matcher m = Pattern.compile(never).matcher(code);
            Check.so(never + " is not in the program", !m.find());
        }
        Matcher publics = Pattern.compile("\\bpublic\\b").matcher(code);
        int count = 0;
        while (publics.find()) {
            count++;
        }
        Check.due("public: the class, its constants, constructor and methods", count, 1 + 1 + 1 + 37);
        longestMethod(code);
        Check.end("LanguageTest");
    }

    private static void longestMethod(String code) {
        int start = -1;
        String[] lines = code.split("\n");
        for (int i = 0; i < lines.length; i++) {
            String line = lines[i];
            boolean opens = line.endsWith(") {") && line.matches(" {4}(?: {4})?\\w.*");
            if (opens && !line.trim().matches("(for|if|while|switch|else|\\}).*")) {
                start = i;
            }
            if (start >= 0 && line.matches(" {4}(?: {4})?\\}") && indent(line) == indent(lines[start])) {
                Check.so("a method of at most sixty lines at " + lines[start].trim(), i - start + 1 <= 60);
                start = -1;
            }
        }
    }

    private static int indent(String line) {
        int i = 0;
        while (i < line.length() && line.charAt(i) == ' ') {
            i++;
        }
        return i;
    }
}
