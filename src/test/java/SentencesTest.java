import java.io.IOException;
import java.nio.file.DirectoryStream;
import java.nio.file.Files;
import java.nio.file.Path;
import java.util.ArrayList;
import java.util.List;
import java.util.Set;
import java.util.TreeSet;
import java.util.regex.Matcher;
import java.util.regex.Pattern;

/** Every sentence of the document has tests: src/test/sentences.txt, beside the document and beside the tests. */
public final class SentencesTest {
    private static final Path TABLE = Path.of("src/test/sentences.txt");
    private static final Path DOCUMENT = Path.of("../shared/DOC.md");
    private static final Path TESTS = Path.of("src/test/java");
    private static final Pattern NAMED = Pattern.compile("Check\\.sentence\\(\"([^\"]*)\"");
    private static final String NO_TEST = "-";
    private static final int SHOWN = 60;

    private final List<String> pieces = new ArrayList<>();
    private final Set<String> named = new TreeSet<>();
    private final Set<String> written = new TreeSet<>();

    public static void main(String[] args) throws IOException {
        SentencesTest table = new SentencesTest();
        table.readTable();
        table.readTests();
        table.piecesAreTheDocument();
        table.testsAreWritten();
        table.testsAreNamed();
        Check.end("SentencesTest");
    }

    /** A piece stands at the start of its line, the names of its tests stand below it, farther in. */
    private void readTable() throws IOException {
        List<String> lines = Files.readAllLines(TABLE);
        int namesOfPiece = 1;
        for (String line : lines.subList(lines.indexOf("") + 1, lines.size())) {
            if (line.startsWith(" ")) {
                namesOfPiece++;
                named.add(line.trim());
            } else {
                Check.due("a piece has a test or a \"-\", ahead of: " + line, namesOfPiece > 0, true);
                namesOfPiece = 0;
                pieces.add(line);
            }
        }
        Check.due("the last piece has a test or a \"-\"", namesOfPiece > 0, true);
        Check.due("some piece has no test", named.remove(NO_TEST), true);
    }

    private void readTests() throws IOException {
        try (DirectoryStream<Path> files = Files.newDirectoryStream(TESTS, "*Test.java")) {
            for (Path file : files) {
                Matcher found = NAMED.matcher(Files.readString(file));
                while (found.find()) {
                    Check.due("there is one test alone with the name " + found.group(1),
                        written.add(found.group(1)), true);
                }
            }
        }
    }

    private static String spaced(String text) {
        return text.trim().replaceAll("\\s+", " ");
    }

    private void piecesAreTheDocument() throws IOException {
        String document = spaced(Files.readString(DOCUMENT));
        String cut = spaced(String.join(" ", pieces));
        int same = 0;
        while (same < document.length() && same < cut.length() && document.charAt(same) == cut.charAt(same)) {
            same++;
        }
        Check.dueText("the pieces, from character " + same, shown(cut, same), shown(document, same));
    }

    private static String shown(String text, int from) {
        return text.substring(from, Math.min(text.length(), from + SHOWN));
    }

    private void testsAreWritten() {
        for (String name : named) {
            Check.due("there is a test with the name " + name, written.contains(name), true);
        }
    }

    private void testsAreNamed() {
        for (String name : written) {
            Check.due("a piece of the document has the test " + name, named.contains(name), true);
        }
    }
}
