import com.sun.source.tree.ClassTree;
import com.sun.source.tree.MethodInvocationTree;
import com.sun.source.tree.MethodTree;
import com.sun.source.tree.NewClassTree;
import com.sun.source.util.TreePathScanner;
import com.sun.source.util.Trees;
import java.io.IOException;
import java.util.ArrayList;
import java.util.Collections;
import java.util.List;
import java.util.Map;
import java.util.Set;
import java.util.TreeMap;
import java.util.TreeSet;
import javax.lang.model.element.Element;
import javax.lang.model.element.ExecutableElement;
import javax.lang.model.element.Modifier;

/** LANGUAGE.md's rules 8 and 11 on calls: at most eight deep, and no recursion but the acts' own. */
public final class DepthTest extends TreePathScanner<Void, Void> {
    private static final int DEEPEST = 8;
    private static final Set<String> RECURSIVE = Set.of("Hives.acted");

    private final Trees trees;
    private final Map<String, Set<String>> calls = new TreeMap<>();
    private final Set<String> declared = new TreeSet<>();
    private final Set<String> opens = new TreeSet<>();
    private final Due due = new Due("DepthTest");
    private String caller = "";

    private DepthTest(Trees trees) {
        this.trees = trees;
    }

    public static void main(String[] args) throws IOException {
        Source.scan(DepthTest::new).measure();
    }

    private static String nameOf(Element element) {
        return element.getEnclosingElement().getSimpleName() + "." + element.getSimpleName();
    }

    @Override
    public Void visitClass(ClassTree tree, Void nothing) {
        String outer = caller;
        // What fields begin with is made by the constructor.
        caller = trees.getElement(getCurrentPath()).getSimpleName() + ".<init>";
        declared.add(caller);
        super.visitClass(tree, nothing);
        caller = outer;
        return null;
    }

    @Override
    public Void visitMethod(MethodTree tree, Void nothing) {
        String outer = caller;
        Element method = trees.getElement(getCurrentPath());
        caller = nameOf(method);
        declared.add(caller);
        if (method.getModifiers().contains(Modifier.PUBLIC)) {
            opens.add(caller);
        }
        super.visitMethod(tree, nothing);
        caller = outer;
        return null;
    }

    @Override
    public Void visitMethodInvocation(MethodInvocationTree tree, Void nothing) {
        noteCall();
        return super.visitMethodInvocation(tree, nothing);
    }

    @Override
    public Void visitNewClass(NewClassTree tree, Void nothing) {
        noteCall();
        return super.visitNewClass(tree, nothing);
    }

    private void noteCall() {
        Element called = trees.getElement(getCurrentPath());
        if (called instanceof ExecutableElement) {
            calls.computeIfAbsent(caller, key -> new TreeSet<>()).add(nameOf(called));
        }
    }

    private void measure() {
        due.holds("all 45 calls and the constructor are seen, not " + opens, opens.size() == 46);
        for (String open : opens) {
            List<String> chain = longestFrom(open, new ArrayList<>());
            due.holds(chain + " is at most " + DEEPEST + " deep", chain.size() <= DEEPEST);
        }
        due.end();
    }

    /** The longest chain of the file's own methods; a recursion beside the acts' is told as a fault. */
    private List<String> longestFrom(String method, List<String> ahead) {
        List<String> longest = Collections.emptyList();
        ahead.add(method);
        for (String called : calls.getOrDefault(method, Set.of())) {
            boolean again = ahead.contains(called);
            due.holds(called + " calls itself by " + ahead, !again || RECURSIVE.contains(called));
            if (declared.contains(called) && !again) {
                List<String> chain = longestFrom(called, ahead);
                longest = chain.size() > longest.size() ? chain : longest;
            }
        }
        ahead.remove(ahead.size() - 1);
        List<String> all = new ArrayList<>();
        all.add(method);
        all.addAll(longest);
        return all;
    }
}
