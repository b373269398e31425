import com.sun.source.tree.*;
import com.sun.source.util.JavacTask;
import com.sun.source.util.SourcePositions;
import com.sun.source.util.TreePath;
import com.sun.source.util.TreePathScanner;
import com.sun.source.util.Trees;
import java.io.File;
import java.nio.charset.StandardCharsets;
import java.nio.file.Files;
import java.util.ArrayList;
import java.util.Arrays;
import java.util.List;
import java.util.Map;
import java.util.Set;
import java.util.TreeMap;
import java.util.TreeSet;
import javax.lang.model.element.Element;
import javax.lang.model.element.ElementKind;
import javax.lang.model.element.ExecutableElement;
import javax.lang.model.element.Modifier;
import javax.lang.model.type.TypeMirror;
import javax.tools.JavaCompiler;
import javax.tools.StandardJavaFileManager;
import javax.tools.ToolProvider;

/** The rules of LANGUAGE.md that can be read off the program's own source, with the compiler's help. */
public final class LanguageTests {
    private static final Due DUE = new Due();
    private static final File SOURCE = new File("src/main/java/OtherSelves.java");
    // Only what the class uses of rule 4; what else the rule allows may be added when it is used.
    private static final Set<String> LIBRARY = new TreeSet<>(Arrays.asList(
        "java.lang.String.indexOf", "java.lang.System.arraycopy", "java.lang.Integer.bitCount",
        "java.lang.Integer.compare", "java.lang.Math.max"));
    private static final Set<String> STATIC_TYPES = new TreeSet<>(Arrays.asList(
        "int", "long", "boolean", "char", "java.lang.String", "int[]", "long[]", "char[]", "byte[]"));
    private static final int MOST_DEEP = 8;
    private static final int MOST_PARAMETERS = 7;
    private static final int MOST_LINES = 60;
    private static final int MOST_CLASSES = 13;
    private static final int MOST_FIELDS = 20;

    /** Which method calls which; a method's name has its class ahead of it and its parameters behind. */
    private static final class Calls {
        final Map<String, Set<String>> to = new TreeMap<>();
        final Map<String, Set<String>> reached = new TreeMap<>();

        void add(String from, String callee) {
            to.computeIfAbsent(from, x -> new TreeSet<>());
            to.computeIfAbsent(callee, x -> new TreeSet<>());
            to.get(from).add(callee);
        }

        void close() {
            for (String from : to.keySet()) {
                Set<String> seen = new TreeSet<>();
                List<String> open = new ArrayList<>(to.get(from));
                while (!open.isEmpty()) {
                    String next = open.remove(open.size() - 1);
                    if (seen.add(next)) {
                        open.addAll(to.get(next));
                    }
                }
                reached.put(from, seen);
            }
        }

        boolean together(String one, String other) {
            return one.equals(other) || reached.get(one).contains(other) && reached.get(other).contains(one);
        }

        /** The longest chain of calls from a method on; those that call one another count as one. */
        int depth(String from) {
            int most = 0;
            for (String one : to.keySet()) {
                if (together(from, one)) {
                    for (String next : to.get(one)) {
                        most = together(from, next) ? most : Math.max(most, depth(next));
                    }
                }
            }
            return most + 1;
        }
    }

    /** Walks over the source with each name known. */
    private static final class Walk extends TreePathScanner<Void, Void> {
        final Trees trees;
        final CompilationUnitTree unit;
        final SourcePositions places;
        final Calls calls = new Calls();
        final Set<String> face = new TreeSet<>();
        final List<String> thrown = new ArrayList<>();
        final List<String> made = new ArrayList<>();
        int classes;

        Walk(Trees trees, CompilationUnitTree unit) {
            this.trees = trees;
            this.unit = unit;
            places = trees.getSourcePositions();
        }

        private long line(long place) {
            return unit.getLineMap().getLineNumber(place);
        }

        private String where(Tree tree) {
            return "line " + line(places.getStartPosition(unit, tree));
        }

        private Element element() {
            return trees.getElement(getCurrentPath());
        }

        private void refuse(Tree tree, int rule) {
            DUE.due("rule " + rule + ", " + where(tree) + ": " + tree, false, true);
        }

        /** The method round the tree; null in a field's first value. */
        private MethodTree method() {
            for (TreePath path = getCurrentPath(); path != null; path = path.getParentPath()) {
                if (path.getLeaf() instanceof MethodTree) {
                    return (MethodTree) path.getLeaf();
                }
            }
            return null;
        }

        private String name(Element method) {
            return method.getEnclosingElement() + "." + method;
        }

        private String round() {
            MethodTree method = method();
            return method == null ? "fields" : name(trees.getElement(trees.getPath(unit, method)));
        }

        @Override public Void visitImport(ImportTree tree, Void x) {
            DUE.due("rule 4: " + tree.getQualifiedIdentifier(),
                tree.getQualifiedIdentifier().toString().equals("java.util.NoSuchElementException"), true);
            return super.visitImport(tree, x);
        }

        @Override public Void visitClass(ClassTree tree, Void x) {
            classes++;
            Set<Modifier> flags = tree.getModifiers().getFlags();
            boolean outer = tree.getSimpleName().contentEquals("OtherSelves");
            boolean asTold = outer ? flags.contains(Modifier.PUBLIC) && flags.contains(Modifier.FINAL)
                : flags.contains(Modifier.STATIC) && !flags.contains(Modifier.PUBLIC) && !flags.contains(Modifier.PROTECTED);
            DUE.due("rules 1 and 2: " + tree.getSimpleName() + " " + flags, asTold, true);
            int fields = 0;
            for (Tree member : tree.getMembers()) {
                if (member instanceof VariableTree) {
                    fields += isConstant((VariableTree) member) ? 0 : 1;
                }
            }
            DUE.due("rule 11: fields of " + tree.getSimpleName() + ": " + fields, fields <= MOST_FIELDS, true);
            return super.visitClass(tree, x);
        }

        private boolean isConstant(VariableTree field) {
            return field.getModifiers().getFlags().contains(Modifier.STATIC);
        }

        @Override public Void visitVariable(VariableTree tree, Void x) {
            if (element().getKind() == ElementKind.FIELD && isConstant(tree)) {
                DUE.due("rule 5: " + tree, tree.getModifiers().getFlags().contains(Modifier.FINAL), true);
                DUE.due("rule 5: " + tree, STATIC_TYPES.contains(element().asType().toString()), true);
                DUE.due("rule 5: " + tree, tree.getInitializer() != null, true);
            }
            return super.visitVariable(tree, x);
        }

        @Override public Void visitBlock(BlockTree tree, Void x) {
            DUE.due("rule 5, " + where(tree) + ": a static block", tree.isStatic(), false);
            return super.visitBlock(tree, x);
        }

        @Override public Void visitMethod(MethodTree tree, Void x) {
            DUE.due("rule 11: parameters of " + tree.getName(), tree.getParameters().size() <= MOST_PARAMETERS, true);
            long lines = line(places.getEndPosition(unit, tree)) - line(places.getStartPosition(unit, tree));
            DUE.due("rule 11: lines of " + tree.getName() + ": " + lines, lines <= MOST_LINES, true);
            if (tree.getModifiers().getFlags().contains(Modifier.PUBLIC)) {
                face.add(name(element()));
            }
            return super.visitMethod(tree, x);
        }

        @Override public Void visitMethodInvocation(MethodInvocationTree tree, Void x) {
            Element callee = element();
            if (callee instanceof ExecutableElement && callee.getKind() == ElementKind.METHOD) {
                String owner = callee.getEnclosingElement().toString();
                boolean own = owner.startsWith("OtherSelves");
                String plain = owner + "." + callee.getSimpleName();
                DUE.due("rule 4, " + where(tree) + ": " + plain, own || LIBRARY.contains(plain), true);
                calls.add(round(), name(callee));
            }
            return super.visitMethodInvocation(tree, x);
        }

        @Override public Void visitNewClass(NewClassTree tree, Void x) {
            MethodTree method = method();
            if (method != null && method.getReturnType() != null) {
                made.add(method.getName() + " " + tree.getIdentifier());
            }
            return super.visitNewClass(tree, x);
        }

        @Override public Void visitNewArray(NewArrayTree tree, Void x) {
            MethodTree method = method();
            if (method != null && method.getReturnType() != null) {
                made.add(method.getName() + " " + tree);
            }
            return super.visitNewArray(tree, x);
        }

        @Override public Void visitThrow(ThrowTree tree, Void x) {
            thrown.add(round() + " " + tree.getExpression());
            return super.visitThrow(tree, x);
        }

        @Override public Void visitBinary(BinaryTree tree, Void x) {
            TypeMirror type = trees.getTypeMirror(getCurrentPath());
            DUE.due("rule 10, " + where(tree) + ": " + tree, type.toString().startsWith("java."), false);
            return super.visitBinary(tree, x);
        }

        @Override public Void visitTypeCast(TypeCastTree tree, Void x) {
            DUE.due("a cast that may fail, " + where(tree), tree.getType() instanceof PrimitiveTypeTree, true);
            return super.visitTypeCast(tree, x);
        }

        @Override public Void visitTry(TryTree tree, Void x) {
            refuse(tree, 6);
            return super.visitTry(tree, x);
        }

        @Override public Void visitLambdaExpression(LambdaExpressionTree tree, Void x) {
            refuse(tree, 2);
            return super.visitLambdaExpression(tree, x);
        }

        @Override public Void visitMemberReference(MemberReferenceTree tree, Void x) {
            refuse(tree, 2);
            return super.visitMemberReference(tree, x);
        }

        @Override public Void visitSynchronized(SynchronizedTree tree, Void x) {
            refuse(tree, 6);
            return super.visitSynchronized(tree, x);
        }

        @Override public Void visitAssert(AssertTree tree, Void x) {
            refuse(tree, 6);
            return super.visitAssert(tree, x);
        }
    }

    private static void look(Walk walk, CompilationUnitTree unit) {
        DUE.due("no package line", unit.getPackageName() == null, true);
        walk.scan(unit, null);
        DUE.due("rule 11: classes: " + walk.classes, walk.classes <= MOST_CLASSES, true);
        walk.calls.close();
        for (String method : walk.face) {
            int depth = walk.calls.to.containsKey(method) ? walk.calls.depth(method) : 1;
            DUE.due("rule 11: " + method + " goes " + depth + " deep", depth <= MOST_DEEP, true);
        }
        DUE.due("thrown: " + walk.thrown, walk.thrown.size() == 1
            && walk.thrown.get(0).startsWith("OtherSelves.self(int,int) new NoSuchElementException(\""), true);
        DUE.due("made by calls: " + walk.made, walk.made.toString().equals("[self NoSuchElementException]"), true);
    }

    private static void signs() throws Exception {
        String text = new String(Files.readAllBytes(SOURCE.toPath()), StandardCharsets.ISO_8859_1);
        for (int i = 0; i < text.length(); i++) {
            char sign = text.charAt(i);
            DUE.due("the sign " + (int) sign + " at " + i, sign == '\n' || sign >= ' ' && sign < 127, true);
        }
    }

    public static void main(String[] args) throws Exception {
        signs();
        JavaCompiler compiler = ToolProvider.getSystemJavaCompiler();
        try (StandardJavaFileManager files = compiler.getStandardFileManager(null, null, StandardCharsets.UTF_8)) {
            JavacTask task = (JavacTask) compiler.getTask(null, files, null, null, null, files.getJavaFileObjects(SOURCE));
            CompilationUnitTree unit = task.parse().iterator().next();
            task.analyze();
            look(new Walk(Trees.instance(task), unit), unit);
        }
        DUE.close("LanguageTests");
    }
}
