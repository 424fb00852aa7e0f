import com.sun.source.tree.CompilationUnitTree;
import com.sun.source.util.JavacTask;
import com.sun.source.util.TreePathScanner;
import com.sun.source.util.Trees;
import java.io.IOException;
import java.nio.file.Path;
import java.util.List;
import java.util.function.Function;
import javax.tools.JavaCompiler;
import javax.tools.StandardJavaFileManager;
import javax.tools.ToolProvider;

/** The class's text as javac understands it, for tests of LANGUAGE.md's rules. */
final class Source {
    private static final Path FILE = Path.of("src/main/java/BeesBooks.java");

    private Source() {
    }

    /** Leads a scanner through the whole file, and gives it back. */
    static <S extends TreePathScanner<Void, Void>> S scan(Function<Trees, S> maker) throws IOException {
        JavaCompiler compiler = ToolProvider.getSystemJavaCompiler();
        try (StandardJavaFileManager files = compiler.getStandardFileManager(null, null, null)) {
            List<String> options = List.of("-proc:none");
            JavacTask task = (JavacTask) compiler.getTask(null, files, null, options, null, files.getJavaFileObjects(FILE));
            S scanner = maker.apply(Trees.instance(task));
            Iterable<? extends CompilationUnitTree> units = task.parse();
            task.analyze();
            for (CompilationUnitTree unit : units) {
                scanner.scan(unit, null);
            }
            return scanner;
        }
    }
}
