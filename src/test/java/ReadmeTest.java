import java.io.IOException;
import java.lang.reflect.Method;
import java.lang.reflect.Modifier;
import java.nio.charset.StandardCharsets;
import java.nio.file.Files;
import java.nio.file.Path;
import java.util.List;
import java.util.stream.Collectors;
import java.util.stream.Stream;

/** README.md: its example answers as it says, and it names every call and every test. */
public final class ReadmeTest {
    static int wrong = 0;

    static void due(String what, long got, long want) {
        if (got == want) return;
        wrong++;
        System.out.println(what + " is " + got + ", due is " + want);
    }

    static void names(String text, String word) {
        if (text.contains("`" + word)) return;
        wrong++;
        System.out.println("README.md doesn't name " + word);
    }

    /** The statements of the example, one by one; that README.md has the same ones is looked at by hasLines. */
    static void example() {
        ShadowTester x = new ShadowTester();
        due("ITEM", x.item(0, 0, 4, 2), 0);
        due("ITEM", x.item(1, 1, 2, 1), 1);
        due("ITEM", x.item(0, 1, 6, 1), 2);
        due("quota", x.quota(1, 1, 8), 8);
        due("SPAN", x.set(0, 2), 4);
        due("held back", x.begin(7), 0);
        int[] asked = {0, 2};
        int answers = 0;
        while (x.stops() == 0 && x.next() >= 0 && answers < 2) {
            int item = x.next();
            due("NEXT", item, asked[answers]);
            answers++;
            due("ANSWERS", x.answer(item, 1), answers);
        }
        due("STOPS", x.stops(), 1);
        due("MODE", x.mode(), 8);
        due("MEAN above", x.now(0, 0), 745);
        due("MEAN below", x.now(0, 1), 113);
        due("ANSWERS", x.end(), 2);
    }

    static void hasLines(String text) {
        String[] lines = {"ShadowTester x = new ShadowTester();", "x.item(0, 0, 4, 2);", "x.item(1, 1, 2, 1);", "x.item(0, 1, 6, 1);",
            "x.quota(1, 1, 8);", "x.set(0, 2);", "x.begin(7);", "while (x.stops() == 0 && x.next() >= 0) {", "int item = x.next();",
            "x.answer(item, 1);", "int level = x.mode();", "long above = x.now(0, 0);", "long below = x.now(0, 1);", "int had = x.end();"};
        int from = 0;
        for (String line : lines) {
            int at = text.indexOf(line, from);
            if (at < 0) {
                wrong++;
                System.out.println("README.md's example hasn't, in this order: " + line);
            } else {
                from = at + line.length();
            }
        }
    }

    static void namesAll(String text) throws IOException {
        for (Method m : ShadowTester.class.getDeclaredMethods()) {
            if (Modifier.isPublic(m.getModifiers())) names(text, m.getName() + "`");
        }
        List<String> tests;
        try (Stream<Path> files = Files.list(Path.of("src/test/java"))) {
            tests = files.map(f -> f.getFileName().toString().replace(".java", "")).collect(Collectors.toList());
        }
        for (String test : tests) names(text, test + "`");
        names(text, "bash .ci/run`");
    }

    public static void main(String[] args) throws IOException {
        String text = Files.readString(Path.of("README.md"), StandardCharsets.UTF_8);
        example();
        hasLines(text);
        namesAll(text);
        System.out.println(wrong == 0 ? "README.md says what is so" : wrong + " things of README.md are not so");
        if (wrong > 0) System.exit(1);
    }
}
