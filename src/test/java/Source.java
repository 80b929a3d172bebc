import com.sun.source.tree.CompilationUnitTree;
import com.sun.source.tree.Tree;
import com.sun.source.util.JavacTask;
import com.sun.source.util.Trees;
import java.io.IOException;
import java.io.UncheckedIOException;
import java.net.URI;
import java.util.List;
import javax.tools.Diagnostic;
import javax.tools.DiagnosticCollector;
import javax.tools.JavaFileObject;
import javax.tools.SimpleJavaFileObject;
import javax.tools.ToolProvider;

/** A Java file as the compiler reads it, for tests that look at how a class is written. */
final class Source {
    private final CompilationUnitTree unit;
    private final Trees trees;

    Source(String className, String text) {
        DiagnosticCollector<JavaFileObject> said = new DiagnosticCollector<>();
        JavacTask task = (JavacTask) ToolProvider.getSystemJavaCompiler().getTask(null, null,
                said, List.of("--release", "17", "-proc:none"), null,
                List.of(file(className, text)));
        try {
            unit = task.parse().iterator().next();
            task.analyze();
        } catch (IOException e) {
            throw new UncheckedIOException(e);
        }
        trees = Trees.instance(task);
        // What does not compile has no types to look at.
        if (said.getDiagnostics().stream().anyMatch(d -> d.getKind() == Diagnostic.Kind.ERROR)) {
            throw new IllegalArgumentException(said.getDiagnostics() + " in " + text);
        }
    }

    CompilationUnitTree unit() {
        return unit;
    }

    Trees trees() {
        return trees;
    }

    /** 0 for what the compiler itself put in. */
    long firstLine(Tree tree) {
        return line(trees.getSourcePositions().getStartPosition(unit, tree));
    }

    long lastLine(Tree tree) {
        return line(trees.getSourcePositions().getEndPosition(unit, tree));
    }

    private long line(long position) {
        return position < 0 ? 0 : unit.getLineMap().getLineNumber(position);
    }

    private static JavaFileObject file(String className, String text) {
        URI name = URI.create("string:///" + className + ".java");
        return new SimpleJavaFileObject(name, JavaFileObject.Kind.SOURCE) {
            @Override
            public CharSequence getCharContent(boolean ignoreEncodingErrors) {
                return text;
            }
        };
    }
}
