import java.io.IOException;
import java.io.UncheckedIOException;
import java.nio.file.Files;
import java.nio.file.Path;
import java.util.ArrayList;
import java.util.List;
import java.util.regex.Matcher;
import java.util.regex.Pattern;
import java.util.stream.Stream;

/** No test: lists the sentences of ../shared/DOC.md that no remark of a test quotes as a whole. */
final class Sentences {
    private static final Pattern REMARK = Pattern.compile("(?s)/\\*\\*(.*?)\\*/");
    private static final String ENDS = "(?<=[^.]\\.)\\s+|(?<=[^.]\\.\\))\\s+";
    private static final String FREE = "Not promised";

    private Sentences() {
    }

    public static void main(String[] args) throws IOException {
        List<String> remarks = remarks(Path.of("src/test/java"));
        int quoted = 0;
        int unquoted = 0;
        for (String[] sentence : sentences(Files.readAllLines(Path.of("../shared/DOC.md")))) {
            if (isQuoted(remarks, sentence[0], sentence[1])) {
                quoted++;
            } else {
                unquoted++;
                System.out.println(sentence[0] + ": " + sentence[1]);
            }
        }
        System.out.println(quoted + " sentences are quoted by tests, " + unquoted + " are not");
    }

    private static List<String> remarks(Path folder) throws IOException {
        List<String> remarks = new ArrayList<>();
        try (Stream<Path> files = Files.list(folder)) {
            files.filter(file -> file.toString().endsWith("Test.java")).forEach(file -> {
                Matcher remark = REMARK.matcher(read(file));
                while (remark.find()) {
                    String text = remark.group(1).replaceAll("\n *\\* ", " ").replaceAll("\\s+", " ");
                    remarks.add(text);
                }
            });
        }
        return remarks;
    }

    private static String read(Path file) {
        try {
            return Files.readString(file);
        } catch (IOException e) {
            throw new UncheckedIOException(e);
        }
    }

    /** Each with the head that it stands under; what binds nobody is left out. */
    private static List<String[]> sentences(List<String> lines) {
        List<String[]> sentences = new ArrayList<>();
        String head = "";
        boolean isJava = false;
        for (String line : lines) {
            if (line.startsWith("```")) {
                isJava = line.equals("```java");
            } else if (line.startsWith("#")) {
                head = line.replaceAll("^#+ |:.*", "");
            } else if (!isJava && !head.equals(FREE) && !line.startsWith("Ahead of the calls")) {
                for (String sentence : line.trim().replaceAll("^`[^`]*`: ", "").split(ENDS)) {
                    if (!sentence.matches("(\\d\\.)?")) {
                        sentences.add(new String[] {head, sentence});
                    }
                }
            }
        }
        return sentences;
    }

    private static boolean isQuoted(List<String> remarks, String head, String sentence) {
        Pattern whole = Pattern.compile("(?<=[\" (])" + Pattern.quote(sentence) + "(?=[\" ])");
        for (String remark : remarks) {
            boolean isOfHead = !head.startsWith("Promise") || remark.contains(head + ":");
            if (isOfHead && whole.matcher(remark).find()) {
                return true;
            }
        }
        return false;
    }
}
