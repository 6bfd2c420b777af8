import com.sun.source.tree.CompilationUnitTree;
import com.sun.source.util.JavacTask;
import com.sun.source.util.Trees;
import java.io.IOException;
import java.nio.file.Files;
import java.nio.file.Path;
import java.util.List;
import java.util.Map;
import java.util.stream.Collectors;
import java.util.stream.Stream;
import javax.tools.JavaCompiler;
import javax.tools.StandardJavaFileManager;
import javax.tools.ToolProvider;

/**
 * The rules of ../shared/LANGUAGE.md that the compiler's tree can show. The rules look at the class itself, and at
 * small classes that break one rule each, so that a rule that sees nothing is a failure too.
 */
public final class LanguageTest {
    private static final Path SOURCES = Path.of("src/main/java");
    private static final String CLASS = "RangingNet.java";

    private static final Checks CHECKS = new Checks();

    private LanguageTest() {
    }

    public static void main(String[] args) throws IOException {
        Path work = Files.createTempDirectory("language");
        try {
            CHECKS.due("files of the class", List.of(CLASS), () -> filesIn(SOURCES));
            CHECKS.due("what breaks a rule", List.of(), () -> broken(SOURCES.resolve(CLASS)));
            for (Map.Entry<String, String> sample : LanguageSamples.all().entrySet()) {
                Path file = Files.createDirectories(work.resolve("sample")).resolve("Sample.java");
                Files.writeString(file, sample.getKey());
                String due = sample.getValue();
                CHECKS.due("sample " + sample.getKey(), true, () -> breaks(file, due));
            }
        } finally {
            delete(work);
        }
        CHECKS.finish("LanguageTest");
    }

    /** What breaks a rule in the sample, without the places; an empty rule is due for a sample that breaks none. */
    private static boolean breaks(Path sample, String rule) {
        List<String> found = broken(sample);
        boolean right = rule.isEmpty() ? found.isEmpty() : found.stream().anyMatch(each -> each.contains(rule));
        if (!right) {
            System.out.println("due is \"" + rule + "\", found: " + found);
        }
        return right;
    }

    private static List<String> broken(Path file) {
        JavaCompiler compiler = ToolProvider.getSystemJavaCompiler();
        try (StandardJavaFileManager files = compiler.getStandardFileManager(null, null, null)) {
            JavacTask task = (JavacTask) compiler.getTask(null, files, null, List.of("-proc:none"), null,
                    files.getJavaFileObjects(file));
            CompilationUnitTree unit = task.parse().iterator().next();
            task.analyze();
            return new LanguageRules(Trees.instance(task), unit).broken();
        } catch (IOException unreadable) {
            return List.of("cannot be read: " + file);
        }
    }

    private static List<String> filesIn(Path folder) {
        try (Stream<Path> files = Files.walk(folder)) {
            return files.filter(Files::isRegularFile).map(file -> folder.relativize(file).toString()).sorted()
                    .collect(Collectors.toList());
        } catch (IOException unreadable) {
            return List.of("cannot be read: " + folder);
        }
    }

    private static void delete(Path folder) throws IOException {
        try (Stream<Path> files = Files.walk(folder)) {
            for (Path file : files.sorted((a, b) -> b.compareTo(a)).collect(Collectors.toList())) {
                Files.delete(file);
            }
        }
    }
}
