import com.sun.source.tree.ClassTree;
import com.sun.source.tree.CompilationUnitTree;
import com.sun.source.tree.ForLoopTree;
import com.sun.source.tree.MethodInvocationTree;
import com.sun.source.tree.MethodTree;
import com.sun.source.tree.NewClassTree;
import com.sun.source.tree.Tree;
import com.sun.source.tree.VariableTree;
import com.sun.source.util.JavacTask;
import com.sun.source.util.SourcePositions;
import com.sun.source.util.TreePathScanner;
import com.sun.source.util.Trees;
import java.io.File;
import java.io.IOException;
import java.util.HashMap;
import java.util.HashSet;
import java.util.LinkedHashSet;
import java.util.List;
import java.util.Map;
import java.util.Set;
import javax.lang.model.element.Element;
import javax.lang.model.element.ElementKind;
import javax.lang.model.element.Modifier;
import javax.lang.model.type.ArrayType;
import javax.lang.model.type.TypeMirror;
import javax.tools.JavaCompiler;
import javax.tools.StandardJavaFileManager;
import javax.tools.ToolProvider;

/**
 * The rules of LANGUAGE.md that can be read off the source, held against the narrow part of Java
 * that the class uses by now: what it does not use is refused here, even where a rule allows it.
 */
public final class LanguageTest extends TreePathScanner<Void, Void> {
    private static final Set<Tree.Kind> REFUSED = Set.of(Tree.Kind.THROW, Tree.Kind.TRY, Tree.Kind.CATCH,
            Tree.Kind.SYNCHRONIZED, Tree.Kind.ASSERT, Tree.Kind.LAMBDA_EXPRESSION, Tree.Kind.MEMBER_REFERENCE,
            Tree.Kind.INSTANCE_OF, Tree.Kind.STRING_LITERAL, Tree.Kind.IMPORT, Tree.Kind.PACKAGE,
            Tree.Kind.DO_WHILE_LOOP, Tree.Kind.ENHANCED_FOR_LOOP, Tree.Kind.DOUBLE_LITERAL,
            Tree.Kind.FLOAT_LITERAL);
    private static final Set<String> LIBRARY = Set.of("java.lang.Math.min", "java.lang.Math.max",
            "java.lang.Integer.bitCount", "java.lang.System.arraycopy", "java.lang.Object.<init>");
    private static final int DEEPEST = 8;

    private final Check rules = new Check("LANGUAGE.md");
    private final Trees trees;
    private final CompilationUnitTree unit;
    private final Map<Element, Set<Element>> calls = new HashMap<>();
    private final Set<String> openNames = new HashSet<>();
    private final Set<String> closedNames = new HashSet<>();
    private int classes;
    private Element method;

    private LanguageTest(Trees trees, CompilationUnitTree unit) {
        this.trees = trees;
        this.unit = unit;
    }

    public static void main(String[] args) throws IOException {
        JavaCompiler compiler = ToolProvider.getSystemJavaCompiler();
        try (StandardJavaFileManager files = compiler.getStandardFileManager(null, null, null)) {
            JavacTask task = (JavacTask) compiler.getTask(null, files, null, List.of("-proc:none"), null,
                    files.getJavaFileObjects(new File("src/main/java/TwinLines.java")));
            CompilationUnitTree unit = task.parse().iterator().next();
            task.analyze();
            LanguageTest test = new LanguageTest(Trees.instance(task), unit);
            test.scan(unit, null);
            test.lookAtTheWhole();
            Check.end(test.rules);
        }
    }

    private void lookAtTheWhole() {
        rules.due("rule 11: classes", classes <= 12, true);
        for (String name : closedNames) {
            rules.due("rule 1: a private method named " + name, openNames.contains(name), false);
        }
        for (Element caller : calls.keySet()) {
            int depth = depthOf(caller, new LinkedHashSet<>());
            rules.due("rule 11: calls from " + caller + " on, " + depth + " deep", depth <= DEEPEST, true);
        }
    }

    /** How many calls stand open at most, this one and the library's too. */
    private int depthOf(Element caller, Set<Element> open) {
        if (!open.add(caller)) {
            rules.due("rule 8: " + caller + " comes to call itself", true, false);
            return 0;
        }
        int deepest = 0;
        for (Element called : calls.getOrDefault(caller, Set.of())) {
            deepest = Math.max(deepest, depthOf(called, open));
        }
        open.remove(caller);
        return deepest + 1;
    }

    @Override
    public Void scan(Tree tree, Void nothing) {
        if (tree != null) {
            rules.due("rules 2, 4, 6: " + tree.getKind() + " in line " + lineOf(tree), REFUSED.contains(tree.getKind()), false);
        }
        return super.scan(tree, nothing);
    }

    @Override
    public Void visitClass(ClassTree tree, Void nothing) {
        classes++;
        Element element = trees.getElement(getCurrentPath());
        Set<Modifier> modifiers = element.getModifiers();
        boolean inside = element.getEnclosingElement().getKind() == ElementKind.CLASS;
        rules.due("rule 2: the class " + tree.getSimpleName(),
                inside ? modifiers.contains(Modifier.PRIVATE) && modifiers.contains(Modifier.STATIC)
                        : tree.getSimpleName().contentEquals("TwinLines"), true);
        int fields = 0;
        for (Tree member : tree.getMembers()) {
            rules.due("rule 5: a block in " + tree.getSimpleName(), member.getKind() == Tree.Kind.BLOCK, false);
            boolean isField = member instanceof VariableTree variable
                    && !variable.getModifiers().getFlags().contains(Modifier.STATIC);
            fields += isField ? 1 : 0;
        }
        rules.due("rule 11: fields of " + tree.getSimpleName(), fields <= 20, true);
        return super.visitClass(tree, nothing);
    }

    @Override
    public Void visitMethod(MethodTree tree, Void nothing) {
        method = trees.getElement(getCurrentPath());
        calls.put(method, new LinkedHashSet<>());
        boolean open = method.getModifiers().contains(Modifier.PUBLIC);
        (open ? openNames : closedNames).add(tree.getName().toString());
        String name = method.getEnclosingElement().getSimpleName() + "." + tree.getName();
        int most = name.equals("TwinLines.transfer") ? 8 : 7;
        rules.due("rule 11: parameters of " + name, tree.getParameters().size() <= most, true);
        rules.due("rule 11: lines of " + name, endOf(tree) - lineOf(tree) < 60, true);
        if (tree.getName().contentEquals("<init>")) {
            closedNames.remove("<init>");
        }
        super.visitMethod(tree, nothing);
        method = null;
        return null;
    }

    @Override
    public Void visitVariable(VariableTree tree, Void nothing) {
        Element element = trees.getElement(getCurrentPath());
        rules.due("rule 3: the type of " + tree, isAllowed(element.asType(), true), true);
        if (element.getKind() == ElementKind.FIELD && element.getModifiers().contains(Modifier.STATIC)) {
            rules.due("rule 5: " + tree, element.getModifiers().contains(Modifier.FINAL)
                    && element.asType().getKind().isPrimitive(), true);
        }
        return super.visitVariable(tree, nothing);
    }

    @Override
    public Void visitForLoop(ForLoopTree tree, Void nothing) {
        rules.due("rule 9: a bound in line " + lineOf(tree), tree.getCondition() != null, true);
        return super.visitForLoop(tree, nothing);
    }

    @Override
    public Void visitMethodInvocation(MethodInvocationTree tree, Void nothing) {
        noteCall(trees.getElement(getCurrentPath()));
        return super.visitMethodInvocation(tree, nothing);
    }

    @Override
    public Void visitNewClass(NewClassTree tree, Void nothing) {
        rules.due("rule 2: a class without a name in line " + lineOf(tree), tree.getClassBody() == null, true);
        noteCall(trees.getElement(getCurrentPath()));
        return super.visitNewClass(tree, nothing);
    }

    private void noteCall(Element called) {
        String name = called.getEnclosingElement() + "." + called.getSimpleName();
        rules.due("rule 4: " + name, name.startsWith("TwinLines") || LIBRARY.contains(name), true);
        // What a field's initialiser makes is made in no method; and super() of Object is no call.
        if (method != null && !name.equals("java.lang.Object.<init>")) {
            calls.get(method).add(called);
        }
    }

    private static boolean isAllowed(TypeMirror type, boolean arrays) {
        if (type instanceof ArrayType array) {
            return arrays && isAllowed(array.getComponentType(), false);
        }
        return Set.of("int", "long", "boolean").contains(type.toString()) || type.toString().startsWith("TwinLines.");
    }

    private long lineOf(Tree tree) {
        SourcePositions positions = trees.getSourcePositions();
        return unit.getLineMap().getLineNumber(Math.max(0, positions.getStartPosition(unit, tree)));
    }

    private long endOf(Tree tree) {
        SourcePositions positions = trees.getSourcePositions();
        return unit.getLineMap().getLineNumber(Math.max(0, positions.getEndPosition(unit, tree)));
    }
}
