import java.io.IOException;
import java.nio.file.DirectoryStream;
import java.nio.file.Files;
import java.nio.file.Path;
import java.util.Arrays;
import java.util.List;
import java.util.Set;
import java.util.TreeSet;
import java.util.stream.Collectors;

/** README.md: its example answers as it says there, and its table has every test; it is run in the project's folder. */
public final class ReadmeTest {
    private static final Path README = Path.of("README.md");
    private static final Path TESTS = Path.of("src", "test", "java");

    public static void main(String[] args) throws IOException {
        Due due = new Due("ReadmeTest");
        example(due);
        List<String> readme = Files.readAllLines(README);
        List<String> own = Files.readAllLines(TESTS.resolve("ReadmeTest.java"));
        due.same("the example of README.md is the one of this test",
                between(readme, "```java", "```").equals(between(own, "// From README.md:", "// As README.md says:")) ? 1 : 0, 1);
        due.same("the tests in the table " + listed(readme) + " are those that are there " + written(),
                listed(readme).equals(written()) ? 1 : 0, 1);
        due.end();
    }

    private static void example(Due due) {
        // From README.md:
        SizeForms forms = new SizeForms();

        // The pool: a constant comes once, and is told by its place.
        int number = forms.number(0, 1000);     // an INT, at place 1
        for (char c : "run".toCharArray()) {
            forms.sign(c);
        }
        int text = forms.text();                // a TEXT of these signs, at place 2
        int name = forms.link(4, text, 0);      // a NAME of that TEXT, at place 3

        // The code: a label may be used before it is put.
        int start = forms.label();
        int end = forms.label();
        forms.put(start);                       // ahead of unit 0
        forms.unit(1, number, 0);               // LOAD of the INT
        forms.unit(5, 0, end);                  // IF, to the end
        forms.unit(0, 40, 0);                   // PLAIN: 40 times 0
        forms.key(5, start);
        forms.key(6, end);
        forms.choice(end);                      // CHOICE of these two keys, all others to the end
        forms.unit(4, start, 0);                // GO, to the start
        forms.put(end);

        // A member that is not alone, with two parameters of one place and one of two.
        forms.member(false, 2, 1);

        // Bounds, then bytes: check widens the code, here in two rounds.
        forms.limit(3, 50);                     // a short jump reaches 50 bytes
        int bound = forms.check(0);             // 0: none is broken; else forms.check(1) tells of what
        int length = forms.count(8);            // 77
        int[] bytes = new int[length];
        for (int i = 0; i < length; i++) {
            bytes[i] = forms.out(i);            // 0 .. 255
        }
        // As README.md says:
        due.same("the INT", number, 1);
        due.same("the TEXT", text, 2);
        due.same("the NAME", name, 3);
        due.same("the bound", bound, 0);
        due.same("the rounds", forms.widen(), 2);
        due.same("the bytes of the code", length, 77);
        sameBytes(due, "LOAD, IF", Arrays.copyOfRange(bytes, 0, 10), 18, 1, 154, 0, 8, 200, 0, 0, 0, 72);
        sameBytes(due, "CHOICE", Arrays.copyOfRange(bytes, 50, 72),
                170, 0, 0, 0, 0, 27, 0, 0, 0, 5, 0, 0, 0, 6, 255, 255, 255, 206, 0, 0, 0, 27);
        sameBytes(due, "GO", Arrays.copyOfRange(bytes, 72, 77), 200, 255, 255, 255, 184);
    }

    private static void sameBytes(Due due, String what, int[] got, int... want) {
        due.same(what + ": " + Arrays.toString(got), Arrays.equals(got, want) ? 1 : 0, 1);
    }

    /** The lines behind the first one of these words, up to the next one of those; how far in they stand does not count. */
    private static List<String> between(List<String> lines, String first, String last) {
        List<String> trimmed = lines.stream().map(String::trim).collect(Collectors.toList());
        int from = trimmed.indexOf(first);
        int to = from < 0 ? -1 : from + trimmed.subList(from, trimmed.size()).indexOf(last);
        return to <= from ? List.of(first + " is not there") : trimmed.subList(from + 1, to);
    }

    private static Set<String> listed(List<String> readme) {
        Set<String> names = new TreeSet<>();
        for (String line : readme) {
            if (line.matches("\\| \\w+Test \\|.*")) {
                names.add(line.split(" ")[1]);
            }
        }
        return names;
    }

    private static Set<String> written() throws IOException {
        Set<String> names = new TreeSet<>();
        try (DirectoryStream<Path> files = Files.newDirectoryStream(TESTS, "*Test.java")) {
            for (Path file : files) {
                names.add(file.getFileName().toString().replace(".java", ""));
            }
        }
        return names;
    }
}
