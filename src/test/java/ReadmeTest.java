import java.io.IOException;
import java.lang.reflect.Method;
import java.lang.reflect.Modifier;
import java.nio.file.Files;
import java.nio.file.Path;
import java.util.ArrayList;
import java.util.Collections;
import java.util.List;
import java.util.stream.Collectors;
import java.util.stream.Stream;

/** README.md: its example answers what it tells there, and its tables name every call and every test. */
public final class ReadmeTest {
    public static void main(String[] args) throws IOException {
        Path root = Path.of(args[0]).toAbsolutePath().getParent().resolve("../../..").normalize();
        List<String> readme = Files.readAllLines(root.resolve("README.md"));
        example();
        exampleIsThatOfTheReadme(readme, Files.readAllLines(root.resolve("src/test/java/ReadmeTest.java")));
        callsAreNamed(readme);
        testsAreNamed(readme, root.resolve("src/test/java"));
        Due.end();
    }

    private static void example() {
        HeapImages x = new HeapImages();
        int cells = x.make(0, HeapImages.CELLS, 2);  // 4096, its address in heap 0
        int link = x.make(0, HeapImages.LINK, 2);    // 4108, behind a head and two slots
        x.set(0, cells, 0, link);                    // a slot refers to the link
        x.set(0, link, 1, 2 * 21 + 1);               // the number 21
        x.root(0, 0, cells);                         // all of it can be come to from root 0
        int fault = x.check(0);                      // 0: heap 0 is valid
        int size = x.dump(0);                        // 18: its image has so many bytes
        int came = x.pass(0, size);                  // 18: all of them are to be read now
        int objects = x.restore(1, 400);             // 2 of them are in heap 1, from address 400 on
        boolean alike = x.same();                    // true
        int other = x.at(1, 400, 0);                 // 412: the link's address in heap 1

        x.root(0, 0, link);                          // nothing refers to the cells now
        int freed = x.sweep(0);                      // 3 words
        int changed = x.move(0, 8);                  // 1 reference, that of root 0, which is 8 now

        x.feed(72);                                  // the first two bytes of an image alone
        x.feed(73);
        int refused = x.restore(1, 400);             // -3: it ends at place 2, and heap 1 stays

        Due.is("cells", cells, 4096);
        Due.is("link", link, 4108);
        Due.is("fault", fault, 0);
        Due.is("size", size, 18);
        Due.is("came", came, 18);
        Due.is("objects", objects, 2);
        Due.isTrue("alike", alike);
        Due.is("other", other, 412);
        Due.is("the number 21", x.at(1, other, 1), 43);
        Due.is("freed", freed, 3);
        Due.is("changed", changed, 1);
        Due.is("root 0", State.rootOf(x, 0, 0), 8);
        Due.is("refused", refused, -3);
        Due.is("heap 1 stays", x.told(1, 3), 2);
    }

    private static void exampleIsThatOfTheReadme(List<String> readme, List<String> test) {
        int begin = readme.indexOf("```java") + 1;
        int end = begin + readme.subList(begin, readme.size()).indexOf("```");
        List<String> code = trimmed(readme.subList(begin, end));
        Due.isTrue("the README has an example", code.size() > 5);
        Due.isTrue("the README's example is the one above", Collections.indexOfSubList(trimmed(test), code) >= 0);
    }

    private static List<String> trimmed(List<String> lines) {
        return lines.stream().map(String::trim).collect(Collectors.toList());
    }

    private static void callsAreNamed(List<String> readme) {
        for (Method m : HeapImages.class.getDeclaredMethods()) {
            if (Modifier.isPublic(m.getModifiers())) {
                Due.isTrue("the README tells of " + m.getName(), hasRow(readme, m.getName() + "("));
            }
        }
    }

    private static void testsAreNamed(List<String> readme, Path folder) throws IOException {
        List<String> names = new ArrayList<>();
        try (Stream<Path> files = Files.list(folder)) {
            files.forEach(file -> names.add(file.getFileName().toString()));
        }
        for (String name : names) {
            if (name.endsWith("Test.java")) {
                Due.isTrue("the README tells of " + name, hasRow(readme, name.replace(".java", "`")));
            }
        }
    }

    private static boolean hasRow(List<String> readme, String begin) {
        return readme.stream().anyMatch(line -> line.startsWith("| `" + begin));
    }
}
