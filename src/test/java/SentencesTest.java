import java.io.IOException;
import java.nio.file.Files;
import java.nio.file.Path;
import java.nio.file.Paths;
import java.util.ArrayList;
import java.util.List;
import java.util.TreeMap;
import java.util.regex.Matcher;
import java.util.regex.Pattern;
import java.util.stream.Collectors;
import java.util.stream.Stream;

/** That each sentence of the document has a test, and that what the tests say of it stands there; run from the project's folder. */
public final class SentencesTest {
    private static final int PROMISES = 38;
    private static final Pattern SAYS =
        Pattern.compile("says\\(\\s*(\\d+),\\s*((?:\"(?:[^\"\\\\]|\\\\.)*\"\\s*\\+?\\s*)+)\\)");
    private static final Pattern LITERAL = Pattern.compile("\"((?:[^\"\\\\]|\\\\.)*)\"");

    /** A part of the document, and which of its signs a test has said. */
    private static final class Part {
        final String text;
        final boolean[] said;

        Part(String text) {
            this.text = text.replaceAll("\\s+", " ").trim();
            said = new boolean[this.text.length()];
        }

        boolean say(String sentence) {
            boolean stands = false;
            for (int at = text.indexOf(sentence); at >= 0; at = text.indexOf(sentence, at + 1)) {
                stands = true;
                for (int i = at; i < at + sentence.length(); i++) {
                    said[i] = true;
                }
            }
            return stands;
        }

        /** What no test has said, where it has words. */
        List<String> unsaid() {
            List<String> all = new ArrayList<>();
            int from = 0;
            for (int i = 0; i <= said.length; i++) {
                if (i == said.length || said[i]) {
                    String words = text.substring(from, i).trim();
                    if (words.matches(".*[A-Za-z0-9].*")) {
                        all.add(words);
                    }
                    from = i + 1;
                }
            }
            return all;
        }
    }

    public static void main(String[] args) throws IOException {
        List<String> lines = Files.readAllLines(Paths.get("../shared/DOC.md"));
        TreeMap<Integer, Part> parts = parts(lines);
        Part whole = new Part(String.join(" ", lines));
        int sayings = 0;
        for (Path test : tests()) {
            Matcher m = SAYS.matcher(Files.readString(test));
            while (m.find()) {
                sayings++;
                int promise = Integer.parseInt(m.group(1));
                String sentence = sentence(m.group(2));
                Part part = parts.get(promise);
                boolean stands = part != null && part.say(sentence) || promise == 0 && whole.say(sentence);
                Check.so(test.getFileName() + ": part " + promise + " says: " + sentence, stands);
            }
        }
        Check.so("many sentences are said, " + sayings, sayings >= 200);
        Check.due("the terms and the promises", parts.size(), PROMISES + 1);
        for (int promise : parts.keySet()) {
            for (String words : parts.get(promise).unsaid()) {
                Check.so("part " + promise + ": a test for: " + words, false);
            }
        }
        Check.end("SentencesTest");
    }

    private static List<Path> tests() throws IOException {
        try (Stream<Path> files = Files.list(Paths.get("src/test/java"))) {
            return files.filter(f -> f.getFileName().toString().matches("EdgesOf\\w+Test\\.java")).sorted()
                .collect(Collectors.toList());
        }
    }

    private static String sentence(String literals) {
        StringBuilder b = new StringBuilder();
        Matcher m = LITERAL.matcher(literals);
        while (m.find()) {
            b.append(m.group(1).replace("\\\"", "\"").replace("\\\\", "\\"));
        }
        return b.toString();
    }

    /** The terms (0) and each promise, without headings, signatures and what the interface says ahead of calls. */
    private static TreeMap<Integer, Part> parts(List<String> lines) {
        TreeMap<Integer, StringBuilder> texts = new TreeMap<>();
        int part = -1;
        for (String line : lines) {
            if (line.startsWith("## ")) {
                Matcher m = Pattern.compile("## Promise (\\d+):.*").matcher(line);
                part = line.equals("## Terms") ? 0 : m.matches() ? Integer.parseInt(m.group(1)) : -1;
            } else if (part >= 0 && !line.startsWith("```") && !line.startsWith("Ahead of the calls")) {
                String said = line.replaceFirst("^`[^`]*`:", "").replaceFirst("^======== \\d ", "");
                texts.computeIfAbsent(part, p -> new StringBuilder()).append(said).append(' ');
            }
        }
        TreeMap<Integer, Part> parts = new TreeMap<>();
        texts.forEach((number, text) -> parts.put(number, new Part(text.toString())));
        return parts;
    }
}
