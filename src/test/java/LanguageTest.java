import com.sun.source.tree.BlockTree;
import com.sun.source.tree.CatchTree;
import com.sun.source.tree.ClassTree;
import com.sun.source.tree.CompilationUnitTree;
import com.sun.source.tree.ImportTree;
import com.sun.source.tree.LambdaExpressionTree;
import com.sun.source.tree.MemberReferenceTree;
import com.sun.source.tree.MethodTree;
import com.sun.source.tree.NewClassTree;
import com.sun.source.tree.SynchronizedTree;
import com.sun.source.tree.ThrowTree;
import com.sun.source.tree.TryTree;
import com.sun.source.tree.VariableTree;
import com.sun.source.util.JavacTask;
import com.sun.source.util.TreeScanner;
import com.sun.source.util.Trees;
import java.io.IOException;
import java.nio.file.Path;
import java.util.ArrayList;
import java.util.List;
import java.util.Set;
import java.util.TreeSet;
import javax.lang.model.element.Modifier;
import javax.tools.JavaCompiler;
import javax.tools.StandardJavaFileManager;
import javax.tools.ToolProvider;

/** Those rules of LANGUAGE.md that can be seen from the source as it stands. */
public final class LanguageTest extends TreeScanner<Void, String> {
    private static final Set<String> STATIC_TYPES = Set.of("int", "long", "boolean", "char", "String", "int[]", "long[]", "char[]", "byte[]");
    private static final Set<String> EXCEPTIONS = Set.of("IllegalStateException", "IllegalArgumentException", "IndexOutOfBoundsException",
        "ArithmeticException", "UnsupportedOperationException", "NoSuchElementException", "RuntimeException");

    private final CompilationUnitTree unit;
    private final Trees trees;
    private final Set<String> face = new TreeSet<>();
    private final List<String> inside = new ArrayList<>();
    private int classes = 0;
    private int wrong = 0;

    private LanguageTest(CompilationUnitTree unit, Trees trees) {
        this.unit = unit;
        this.trees = trees;
    }

    public static void main(String[] args) throws IOException {
        JavaCompiler compiler = ToolProvider.getSystemJavaCompiler();
        StandardJavaFileManager files = compiler.getStandardFileManager(null, null, null);
        JavacTask task = (JavacTask) compiler.getTask(null, files, null, null, null,
            files.getJavaFileObjects(Path.of("src/main/java/ColumnVault.java")));
        for (CompilationUnitTree unit : task.parse()) {
            LanguageTest test = new LanguageTest(unit, Trees.instance(task));
            test.scan(unit, "");
            for (String name : test.inside) {
                test.rule(!test.face.contains(name), 1, "a method inside bears the name of a public one: " + name);
            }
            test.rule(test.classes <= 12, 11, test.classes + " classes");
            if (test.wrong != 0) {
                System.exit(1);
            }
        }
    }

    private void rule(boolean isKept, int number, String line) {
        if (!isKept) {
            wrong++;
            System.out.println("rule " + number + ": " + line);
        }
    }

    private long lineAt(long position) {
        return unit.getLineMap().getLineNumber(position);
    }

    @Override
    public Void visitImport(ImportTree tree, String owner) {
        rule(tree.toString().trim().equals("import java.util.NoSuchElementException;"), 4, tree.toString().trim());
        return super.visitImport(tree, owner);
    }

    @Override
    public Void visitClass(ClassTree tree, String owner) {
        classes++;
        Set<Modifier> modifiers = tree.getModifiers().getFlags();
        rule(owner.isEmpty() || modifiers.contains(Modifier.STATIC) && !modifiers.contains(Modifier.PUBLIC), 1, "class " + tree.getSimpleName());
        int fields = 0;
        for (var member : tree.getMembers()) {
            if (member instanceof VariableTree field) {
                boolean isStatic = field.getModifiers().getFlags().contains(Modifier.STATIC);
                fields += isStatic ? 0 : 1;
                rule(!isStatic || field.getModifiers().getFlags().contains(Modifier.FINAL) && STATIC_TYPES.contains(field.getType().toString()),
                    5, "static field " + field.getName());
            }
            rule(!(member instanceof BlockTree), 5, "a block in class " + tree.getSimpleName());
        }
        rule(fields <= 20, 11, fields + " fields in " + tree.getSimpleName());
        return super.visitClass(tree, tree.getSimpleName().toString());
    }

    @Override
    public Void visitMethod(MethodTree tree, String owner) {
        String name = tree.getName().toString();
        if (tree.getModifiers().getFlags().contains(Modifier.PUBLIC)) {
            face.add(name);
        } else if (!name.equals("<init>")) {
            inside.add(name);
        }
        rule(tree.getParameters().size() <= 7, 11, "parameters of " + name);
        long first = lineAt(trees.getSourcePositions().getStartPosition(unit, tree));
        long last = lineAt(trees.getSourcePositions().getEndPosition(unit, tree));
        rule(last - first < 60, 11, name + " is long");
        return super.visitMethod(tree, name.equals("<init>") ? "<init>" : owner);
    }

    @Override
    public Void visitThrow(ThrowTree tree, String owner) {
        boolean isNew = tree.getExpression() instanceof NewClassTree made && EXCEPTIONS.contains(made.getIdentifier().toString());
        rule(isNew && !owner.equals("<init>"), 6, tree.toString());
        return super.visitThrow(tree, owner);
    }

    @Override
    public Void visitTry(TryTree tree, String owner) {
        rule(tree.getFinallyBlock() == null && tree.getResources().isEmpty(), 6, "try");
        return super.visitTry(tree, owner);
    }

    @Override
    public Void visitCatch(CatchTree tree, String owner) {
        rule(!tree.getParameter().getType().toString().matches("(Runtime|)Exception|Throwable|Error|Array.*|NullPointer.*|ClassCast.*|Negative.*"),
            6, tree.getParameter().toString());
        return super.visitCatch(tree, owner);
    }

    @Override
    public Void visitSynchronized(SynchronizedTree tree, String owner) {
        rule(false, 6, "synchronized");
        return super.visitSynchronized(tree, owner);
    }

    @Override
    public Void visitLambdaExpression(LambdaExpressionTree tree, String owner) {
        rule(false, 2, "lambda");
        return super.visitLambdaExpression(tree, owner);
    }

    @Override
    public Void visitMemberReference(MemberReferenceTree tree, String owner) {
        rule(false, 2, "method reference");
        return super.visitMemberReference(tree, owner);
    }
}
