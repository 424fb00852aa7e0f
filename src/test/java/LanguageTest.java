import com.sun.source.tree.AssertTree;
import com.sun.source.tree.AssignmentTree;
import com.sun.source.tree.BinaryTree;
import com.sun.source.tree.ClassTree;
import com.sun.source.tree.CompoundAssignmentTree;
import com.sun.source.tree.DoWhileLoopTree;
import com.sun.source.tree.ExpressionTree;
import com.sun.source.tree.ForLoopTree;
import com.sun.source.tree.IdentifierTree;
import com.sun.source.tree.InstanceOfTree;
import com.sun.source.tree.LambdaExpressionTree;
import com.sun.source.tree.MemberReferenceTree;
import com.sun.source.tree.MethodInvocationTree;
import com.sun.source.tree.MethodTree;
import com.sun.source.tree.NewArrayTree;
import com.sun.source.tree.NewClassTree;
import com.sun.source.tree.SynchronizedTree;
import com.sun.source.tree.ThrowTree;
import com.sun.source.tree.Tree;
import com.sun.source.tree.TryTree;
import com.sun.source.tree.TypeCastTree;
import com.sun.source.tree.UnaryTree;
import com.sun.source.tree.VariableTree;
import com.sun.source.tree.WhileLoopTree;
import com.sun.source.util.TreePath;
import com.sun.source.util.TreePathScanner;
import com.sun.source.util.TreeScanner;
import com.sun.source.util.Trees;
import java.io.IOException;
import java.util.Set;
import java.util.TreeSet;
import javax.lang.model.element.Element;
import javax.lang.model.element.ElementKind;
import javax.lang.model.element.Modifier;
import javax.lang.model.element.VariableElement;
import javax.lang.model.type.TypeKind;
import javax.lang.model.type.TypeMirror;

/** LANGUAGE.md's rules 2 to 6, 9 and 12, as far as the parts of the text can tell them. */
public final class LanguageTest extends TreePathScanner<Void, Void> {
    /** Of the library, what rule 4 lists and the class is known to need. */
    private static final Set<String> LIBRARY = Set.of("java.lang.String.indexOf(int)", "java.lang.Integer.bitCount(int)",
        "java.lang.Math.min(int,int)", "java.util.Arrays.fill(long[],long)",
        "java.lang.System.arraycopy(java.lang.Object,int,java.lang.Object,int,int)", "java.lang.Object.Object()");

    private final Trees trees;
    private final Due due = new Due("LanguageTest");
    private int loops = 0;

    private LanguageTest(Trees trees) {
        this.trees = trees;
    }

    public static void main(String[] args) throws IOException {
        LanguageTest test = Source.scan(LanguageTest::new);
        test.due.holds("loops are seen", test.loops > 0);
        test.due.end();
    }

    private TypeMirror typeOf(Tree tree) {
        return trees.getTypeMirror(new TreePath(getCurrentPath(), tree));
    }

    private void outlawed(Tree tree) {
        due.holds("not in the language: " + tree, false);
    }

    // ---- rule 2: classes inside

    @Override
    public Void visitClass(ClassTree tree, Void nothing) {
        Element type = trees.getElement(getCurrentPath());
        boolean outer = type.getSimpleName().contentEquals("BeesBooks");
        boolean inside = type.getEnclosingElement().getSimpleName().contentEquals("BeesBooks");
        due.holds(type + " is the class or one inside it", outer || inside);
        due.holds(type + " is static if inside", outer || type.getModifiers().contains(Modifier.STATIC));
        return super.visitClass(tree, nothing);
    }

    @Override
    public Void visitLambdaExpression(LambdaExpressionTree tree, Void nothing) {
        outlawed(tree);
        return null;
    }

    @Override
    public Void visitMemberReference(MemberReferenceTree tree, Void nothing) {
        outlawed(tree);
        return null;
    }

    // ---- rule 3: types

    @Override
    public Void visitVariable(VariableTree tree, Void nothing) {
        String type = trees.getTypeMirror(getCurrentPath()).toString();
        boolean numbers = type.matches("(int|long|boolean)(\\[\\])?");
        boolean own = type.matches("BeesBooks\\.\\w+(\\[\\])?");
        due.holds(tree + " is of a type that the class is known to need", numbers || own || type.equals("java.lang.String"));
        Element variable = trees.getElement(getCurrentPath());
        if (variable.getKind() == ElementKind.FIELD && variable.getModifiers().contains(Modifier.STATIC)) {
            staticField(tree, (VariableElement) variable);
        }
        return super.visitVariable(tree, nothing);
    }

    // ---- rule 4: the library

    private void called(Element method) {
        String name = method.getEnclosingElement() + "." + method;
        if (method.getKind() == ElementKind.CONSTRUCTOR) {
            name = method.getEnclosingElement() + "." + method.getEnclosingElement().getSimpleName() + "()";
        }
        due.holds(name + " is the file's own or listed", name.startsWith("BeesBooks") || LIBRARY.contains(name));
    }

    @Override
    public Void visitMethodInvocation(MethodInvocationTree tree, Void nothing) {
        called(trees.getElement(getCurrentPath()));
        return super.visitMethodInvocation(tree, nothing);
    }

    // ---- rule 5: static fields

    private void staticField(VariableTree tree, VariableElement field) {
        due.holds(field + " is final", field.getModifiers().contains(Modifier.FINAL));
        boolean writtenOut = false;
        if (tree.getInitializer() instanceof NewArrayTree) {
            NewArrayTree row = (NewArrayTree) tree.getInitializer();
            writtenOut = row.getInitializers() != null && row.getDimensions().isEmpty();
        }
        due.holds(field + " is a constant or written out", field.getConstantValue() != null || writtenOut);
    }

    /** What is assigned, or an element of it: no static row may be changed. */
    private void changed(ExpressionTree target) {
        TreeScanner<Void, Void> names = new TreeScanner<>() {
            @Override
            public Void visitIdentifier(IdentifierTree tree, Void nothing) {
                String name = tree.getName().toString();
                due.holds(target + " is no constant's element", name.matches(".*[a-z].*") || !isRow(name));
                return null;
            }
        };
        if (target.getKind() == Tree.Kind.ARRAY_ACCESS) {
            names.scan(target, null);
        }
    }

    private static boolean isRow(String name) {
        return name.equals("ABOVE") || name.equals("OWN");
    }

    // ---- rule 6: what may not be said

    @Override
    public Void visitThrow(ThrowTree tree, Void nothing) {
        outlawed(tree);
        return null;
    }

    @Override
    public Void visitTry(TryTree tree, Void nothing) {
        outlawed(tree);
        return null;
    }

    @Override
    public Void visitSynchronized(SynchronizedTree tree, Void nothing) {
        outlawed(tree);
        return null;
    }

    @Override
    public Void visitAssert(AssertTree tree, Void nothing) {
        outlawed(tree);
        return null;
    }

    @Override
    public Void visitInstanceOf(InstanceOfTree tree, Void nothing) {
        outlawed(tree);
        return null;
    }

    @Override
    public Void visitTypeCast(TypeCastTree tree, Void nothing) {
        due.holds(tree + " casts a number", typeOf(tree.getType()).getKind().isPrimitive());
        return super.visitTypeCast(tree, nothing);
    }

    @Override
    public Void visitBinary(BinaryTree tree, Void nothing) {
        boolean numbers = isPrimitive(tree.getLeftOperand()) && isPrimitive(tree.getRightOperand());
        due.holds(tree + " is of numbers", numbers);
        return super.visitBinary(tree, nothing);
    }

    private boolean isPrimitive(Tree tree) {
        TypeMirror type = typeOf(tree);
        return type != null && type.getKind().isPrimitive() && type.getKind() != TypeKind.DOUBLE
            && type.getKind() != TypeKind.FLOAT;
    }

    // ---- rule 9: the ends of loops

    /** A loop's own lines change a name that its condition asks. */
    private void loop(ExpressionTree condition, Tree... parts) {
        loops++;
        due.holds("a loop has a condition", condition != null);
        Set<String> asked = new TreeSet<>();
        new TreeScanner<Void, Void>() {
            @Override
            public Void visitIdentifier(IdentifierTree tree, Void nothing) {
                asked.add(tree.getName().toString());
                return null;
            }
        }.scan(condition, null);
        Set<String> stepped = new TreeSet<>();
        Steps steps = new Steps(stepped);
        for (Tree part : parts) {
            steps.scan(part, null);
        }
        stepped.retainAll(asked);
        due.holds("the loop while " + condition + " steps by its own lines", !stepped.isEmpty());
    }

    /** The names that ++, --, += and -= change. */
    private static final class Steps extends TreeScanner<Void, Void> {
        private final Set<String> names;

        Steps(Set<String> names) {
            this.names = names;
        }

        @Override
        public Void visitUnary(UnaryTree tree, Void nothing) {
            Set<Tree.Kind> kinds = Set.of(Tree.Kind.POSTFIX_INCREMENT, Tree.Kind.POSTFIX_DECREMENT,
                Tree.Kind.PREFIX_INCREMENT, Tree.Kind.PREFIX_DECREMENT);
            if (kinds.contains(tree.getKind())) {
                names.add(tree.getExpression().toString());
            }
            return super.visitUnary(tree, nothing);
        }

        @Override
        public Void visitCompoundAssignment(CompoundAssignmentTree tree, Void nothing) {
            if (tree.getKind() == Tree.Kind.PLUS_ASSIGNMENT || tree.getKind() == Tree.Kind.MINUS_ASSIGNMENT) {
                names.add(tree.getVariable().toString());
            }
            return super.visitCompoundAssignment(tree, nothing);
        }
    }

    @Override
    public Void visitForLoop(ForLoopTree tree, Void nothing) {
        loop(tree.getCondition(), tree.getUpdate().toArray(new Tree[0]));
        return super.visitForLoop(tree, nothing);
    }

    @Override
    public Void visitWhileLoop(WhileLoopTree tree, Void nothing) {
        loop(tree.getCondition(), tree.getStatement());
        return super.visitWhileLoop(tree, nothing);
    }

    @Override
    public Void visitDoWhileLoop(DoWhileLoopTree tree, Void nothing) {
        loop(tree.getCondition(), tree.getStatement());
        return super.visitDoWhileLoop(tree, nothing);
    }

    // ---- rule 12: what is made, and where

    private void made(Tree tree) {
        for (TreePath path = getCurrentPath(); path != null; path = path.getParentPath()) {
            if (path.getLeaf() instanceof MethodTree) {
                boolean constructs = ((MethodTree) path.getLeaf()).getReturnType() == null;
                due.holds(tree + " is made in a constructor", constructs);
                return;
            }
        }
    }

    @Override
    public Void visitNewArray(NewArrayTree tree, Void nothing) {
        made(tree);
        return super.visitNewArray(tree, nothing);
    }

    @Override
    public Void visitNewClass(NewClassTree tree, Void nothing) {
        made(tree);
        called(trees.getElement(getCurrentPath()));
        due.holds(tree + " has no body", tree.getClassBody() == null);
        return super.visitNewClass(tree, nothing);
    }

    @Override
    public Void visitAssignment(AssignmentTree tree, Void nothing) {
        changed(tree.getVariable());
        return super.visitAssignment(tree, nothing);
    }
}
