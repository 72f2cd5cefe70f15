import com.sun.source.tree.AssertTree;
import com.sun.source.tree.BinaryTree;
import com.sun.source.tree.CatchTree;
import com.sun.source.tree.ClassTree;
import com.sun.source.tree.CompilationUnitTree;
import com.sun.source.tree.CompoundAssignmentTree;
import com.sun.source.tree.EnhancedForLoopTree;
import com.sun.source.tree.InstanceOfTree;
import com.sun.source.tree.LambdaExpressionTree;
import com.sun.source.tree.MemberReferenceTree;
import com.sun.source.tree.MethodInvocationTree;
import com.sun.source.tree.MethodTree;
import com.sun.source.tree.NewClassTree;
import com.sun.source.tree.SynchronizedTree;
import com.sun.source.tree.ThrowTree;
import com.sun.source.tree.Tree;
import com.sun.source.tree.TryTree;
import com.sun.source.tree.TypeCastTree;
import com.sun.source.tree.VariableTree;
import com.sun.source.util.JavacTask;
import com.sun.source.util.SourcePositions;
import com.sun.source.util.TreePathScanner;
import com.sun.source.util.Trees;
import java.io.IOException;
import java.nio.file.Files;
import java.nio.file.Path;
import java.util.ArrayList;
import java.util.HashMap;
import java.util.HashSet;
import java.util.List;
import java.util.Map;
import java.util.Set;
import java.util.TreeMap;
import java.util.TreeSet;
import javax.lang.model.element.Element;
import javax.lang.model.element.ExecutableElement;
import javax.lang.model.element.Modifier;
import javax.lang.model.element.TypeElement;
import javax.lang.model.type.TypeMirror;
import javax.tools.JavaCompiler;
import javax.tools.StandardJavaFileManager;
import javax.tools.ToolProvider;

/** Whether the program keeps to those rules of ../shared/LANGUAGE.md that can be seen in its text. */
public final class LanguageTest {
    private static final Path PROGRAM = Path.of("src/main/java/Mailroom.java");
    private static final Path DOCUMENT = Path.of("../shared/DOC.md");
    private static final Set<String> LIBRARY = Set.of("java.lang.String.length", "java.lang.String.charAt",
            "java.lang.String.isEmpty", "java.lang.String.equals", "java.lang.String.indexOf",
            "java.lang.String.substring", "java.lang.String.toCharArray", "java.lang.StringBuilder.append",
            "java.lang.StringBuilder.charAt", "java.lang.StringBuilder.setCharAt", "java.lang.StringBuilder.setLength",
            "java.lang.StringBuilder.deleteCharAt", "java.lang.StringBuilder.reverse", "java.lang.StringBuilder.length",
            "java.lang.StringBuilder.toString", "java.lang.AbstractStringBuilder.length", "java.lang.CharSequence.length",
            "java.lang.AbstractStringBuilder.charAt", "java.lang.AbstractStringBuilder.setLength",
            "java.lang.AbstractStringBuilder.setCharAt", "java.lang.Math.max", "java.lang.Math.min",
            "java.lang.Math.abs", "java.lang.Math.floorDiv", "java.lang.Math.floorMod", "java.lang.Long.bitCount",
            "java.lang.Integer.bitCount", "java.lang.Integer.compare", "java.lang.Long.compare",
            "java.lang.System.arraycopy");
    private static final Set<String> THROWN = Set.of("IllegalStateException", "IllegalArgumentException",
            "IndexOutOfBoundsException", "ArithmeticException", "UnsupportedOperationException",
            "NoSuchElementException", "RuntimeException");

    private final Map<String, Set<String>> calls = new TreeMap<>();
    private final List<String> faults = new ArrayList<>();
    private final Set<String> face = new TreeSet<>();
    private final Set<String> faceNames = new HashSet<>();
    private final Set<String> found = new TreeSet<>();
    private int classes;

    public static void main(String[] args) throws IOException {
        LanguageTest test = new LanguageTest();
        test.readFace();
        test.scan();
        test.measureDepth();
        for (String signature : test.face) {
            test.need(test.found.contains(signature), "the face lacks " + signature);
        }
        test.need(test.classes <= 12, "classes: " + test.classes);
        test.faults.forEach(System.out::println);
        if (!test.faults.isEmpty()) {
            System.exit(1);
        }
        System.out.println("the program keeps to the rules that can be seen");
    }

    private void need(boolean right, String fault) {
        if (!right) {
            faults.add(fault);
        }
    }

    /** The document's methods, each as "int upload(int,int,..)". */
    private void readFace() throws IOException {
        for (String line : Files.readAllLines(DOCUMENT)) {
            if (line.startsWith("    public ") && line.contains("(") && !line.contains(" Mailroom()")) {
                String head = line.trim().substring("public ".length());
                String[] parameters = head.substring(head.indexOf('(') + 1, head.indexOf(')')).split(",");
                List<String> types = new ArrayList<>();
                for (String parameter : parameters) {
                    if (!parameter.isBlank()) {
                        types.add(parameter.trim().split(" ")[0]);
                    }
                }
                String name = head.substring(0, head.indexOf('('));
                face.add(name + "(" + String.join(",", types) + ")");
                faceNames.add(name.substring(name.indexOf(' ') + 1));
            }
        }
        need(face.size() > 40, "the document's face is not found");
    }

    private void scan() throws IOException {
        JavaCompiler compiler = ToolProvider.getSystemJavaCompiler();
        StandardJavaFileManager files = compiler.getStandardFileManager(null, null, null);
        JavacTask task = (JavacTask) compiler.getTask(null, files, null, List.of("-proc:none"), null,
                files.getJavaFileObjects(PROGRAM));
        for (CompilationUnitTree unit : task.parse()) {
            task.analyze();
            need(unit.getPackageName() == null, "a package");
            new Scanner(Trees.instance(task), unit).scan(unit, null);
        }
        for (char c : Files.readString(PROGRAM).toCharArray()) {
            need(c < 128, "a sign that is not ASCII: " + (int) c);
        }
    }

    private void measureDepth() {
        Map<String, Integer> depths = new HashMap<>();
        for (String method : calls.keySet()) {
            int depth = depth(method, depths, new ArrayList<>());
            need(depth <= 8, depth + " calls deep: " + method + deepest(method, depths));
        }
    }

    private String deepest(String method, Map<String, Integer> depths) {
        String next = null;
        for (String called : calls.getOrDefault(method, Set.of())) {
            if (next == null || depths.getOrDefault(called, 1) > depths.getOrDefault(next, 1)) {
                next = called;
            }
        }
        return next == null ? "" : " > " + next + deepest(next, depths);
    }

    private int depth(String method, Map<String, Integer> depths, List<String> open) {
        if (open.contains(method)) {
            faults.add("a recursion: " + open + " " + method);
            return 1;
        }
        Integer known = depths.get(method);
        if (known != null) {
            return known;
        }
        open.add(method);
        int deepest = 0;
        for (String called : calls.getOrDefault(method, Set.of())) {
            deepest = Math.max(deepest, depth(called, depths, open));
        }
        open.remove(method);
        depths.put(method, deepest + 1);
        return deepest + 1;
    }

    private final class Scanner extends TreePathScanner<Void, Void> {
        private final Trees trees;
        private final CompilationUnitTree unit;
        private final SourcePositions places;
        private String method = "";
        private MethodTree methodTree;

        Scanner(Trees trees, CompilationUnitTree unit) {
            this.trees = trees;
            this.unit = unit;
            places = trees.getSourcePositions();
        }

        private long line(long place) {
            return unit.getLineMap().getLineNumber(place);
        }

        private String at(Tree tree) {
            return "line " + line(places.getStartPosition(unit, tree)) + ": ";
        }

        private Element element(Tree tree) {
            return trees.getElement(trees.getPath(unit, tree));
        }

        private TypeMirror type(Tree tree) {
            return trees.getTypeMirror(trees.getPath(unit, tree));
        }

        @Override
        public Void visitClass(ClassTree tree, Void none) {
            classes++;
            boolean isOuter = tree.getSimpleName().contentEquals("Mailroom");
            Set<Modifier> flags = tree.getModifiers().getFlags();
            if (isOuter) {
                need(flags.contains(Modifier.PUBLIC) && flags.contains(Modifier.FINAL), "Mailroom is not public and final");
            } else {
                need(!flags.contains(Modifier.PUBLIC) && !flags.contains(Modifier.PROTECTED), at(tree) + "an open class");
                need(flags.contains(Modifier.STATIC) || tree.getKind() == Tree.Kind.ENUM, at(tree) + "a class not static");
            }
            int fields = 0;
            for (Tree member : tree.getMembers()) {
                if (member instanceof VariableTree) {
                    VariableTree field = (VariableTree) member;
                    Set<Modifier> its = field.getModifiers().getFlags();
                    boolean isConstant = its.contains(Modifier.STATIC);
                    need(!isConstant || its.contains(Modifier.FINAL), at(field) + "a static field that is not final");
                    need(its.contains(Modifier.PRIVATE) || tree.getKind() == Tree.Kind.ENUM, at(field) + "an open field");
                    fields += isConstant ? 0 : 1;
                }
                need(member.getKind() != Tree.Kind.BLOCK, at(member) + "an initialiser");
            }
            need(fields <= 20, at(tree) + fields + " fields");
            return super.visitClass(tree, none);
        }

        @Override
        public Void visitMethod(MethodTree tree, Void none) {
            ExecutableElement element = (ExecutableElement) element(tree);
            TypeElement owner = (TypeElement) element.getEnclosingElement();
            Set<Modifier> flags = element.getModifiers();
            String name = element.getSimpleName().toString();
            long start = places.getStartPosition(unit, tree);
            if (start < 0) {
                return null;
            }
            need(tree.getParameters().size() <= 7, at(tree) + "more than seven parameters");
            need(line(places.getEndPosition(unit, tree)) - line(start) < 60, at(tree) + "more than sixty lines");
            if (owner.getSimpleName().contentEquals("Mailroom")) {
                if (flags.contains(Modifier.PUBLIC) && !name.equals("<init>")) {
                    List<String> types = new ArrayList<>();
                    element.getParameters().forEach(p -> types.add(p.asType().toString()));
                    String result = element.getReturnType().toString().replace("java.lang.", "");
                    String signature = result + " " + name + "(" + String.join(",", types) + ")";
                    found.add(signature);
                    need(face.contains(signature), at(tree) + "not in the face: " + signature);
                } else {
                    need(flags.contains(Modifier.PRIVATE) || name.equals("<init>"), at(tree) + "an open member " + name);
                    need(!faceNames.contains(name), at(tree) + "a private method with a name of the face: " + name);
                }
            } else {
                need(!faceNames.contains(name), at(tree) + "a method inside with a name of the face: " + name);
            }
            String outer = method;
            MethodTree outerTree = methodTree;
            method = owner.getSimpleName() + "." + name + element.getParameters().size();
            methodTree = tree;
            calls.putIfAbsent(method, new TreeSet<>());
            super.visitMethod(tree, none);
            method = outer;
            methodTree = outerTree;
            return null;
        }

        @Override
        public Void visitMethodInvocation(MethodInvocationTree tree, Void none) {
            ExecutableElement called = (ExecutableElement) element(tree);
            TypeElement owner = (TypeElement) called.getEnclosingElement();
            String whole = owner.getQualifiedName() + "." + called.getSimpleName();
            if (called.getSimpleName().contentEquals("<init>")) {
                return super.visitMethodInvocation(tree, none);
            }
            if (owner.getQualifiedName().toString().startsWith("java.")) {
                need(LIBRARY.contains(whole), at(tree) + "not in the library: " + whole);
                if (whole.endsWith(".append")) {
                    String type = called.getParameters().get(0).asType().toString();
                    need(Set.of("char", "int", "java.lang.String").contains(type), at(tree) + "append(" + type + ")");
                }
                calls.get(method).add(whole);
            } else {
                calls.get(method).add(owner.getSimpleName() + "." + called.getSimpleName() + called.getParameters().size());
            }
            return super.visitMethodInvocation(tree, none);
        }

        @Override
        public Void visitNewClass(NewClassTree tree, Void none) {
            String made = tree.getIdentifier().toString();
            boolean isOwn = ((TypeElement) element(tree).getEnclosingElement()).getQualifiedName().toString()
                    .startsWith("Mailroom");
            need(isOwn || THROWN.contains(made) || made.equals("StringBuilder") && tree.getArguments().isEmpty(),
                    at(tree) + "new " + made);
            return super.visitNewClass(tree, none);
        }

        @Override
        public Void visitThrow(ThrowTree tree, Void none) {
            boolean isPlain = tree.getExpression() instanceof NewClassTree;
            need(isPlain, at(tree) + "throws something that it has not made");
            if (isPlain) {
                NewClassTree made = (NewClassTree) tree.getExpression();
                need(THROWN.contains(made.getIdentifier().toString()), at(tree) + "throws " + made.getIdentifier());
                for (Tree text : made.getArguments()) {
                    need(text.getKind() == Tree.Kind.STRING_LITERAL, at(tree) + "a text that is not written out");
                }
            }
            need(methodTree.getReturnType() != null, at(tree) + "a throw in a constructor");
            return super.visitThrow(tree, none);
        }

        @Override
        public Void visitBinary(BinaryTree tree, Void none) {
            String left = type(tree.getLeftOperand()).toString();
            String right = type(tree.getRightOperand()).toString();
            boolean isText = left.equals("java.lang.String") || right.equals("java.lang.String");
            need(!isText, at(tree) + "an operator on texts");
            if (tree.getKind() == Tree.Kind.DIVIDE || tree.getKind() == Tree.Kind.REMAINDER) {
                faults.add(at(tree) + "a division: look at its divisor, then let it through here");
            }
            return super.visitBinary(tree, none);
        }

        @Override
        public Void visitCompoundAssignment(CompoundAssignmentTree tree, Void none) {
            need(!type(tree.getVariable()).toString().equals("java.lang.String"), at(tree) + "an operator on texts");
            return super.visitCompoundAssignment(tree, none);
        }

        @Override
        public Void visitTypeCast(TypeCastTree tree, Void none) {
            need(type(tree).getKind().isPrimitive(), at(tree) + "a cast of an object");
            return super.visitTypeCast(tree, none);
        }

        @Override
        public Void visitEnhancedForLoop(EnhancedForLoopTree tree, Void none) {
            need(type(tree.getExpression()).toString().endsWith("[]"), at(tree) + "a loop over what is no array");
            return super.visitEnhancedForLoop(tree, none);
        }

        @Override
        public Void visitLambdaExpression(LambdaExpressionTree tree, Void none) {
            faults.add(at(tree) + "a lambda");
            return null;
        }

        @Override
        public Void visitMemberReference(MemberReferenceTree tree, Void none) {
            faults.add(at(tree) + "a method reference");
            return null;
        }

        @Override
        public Void visitAssert(AssertTree tree, Void none) {
            faults.add(at(tree) + "an assert");
            return null;
        }

        @Override
        public Void visitSynchronized(SynchronizedTree tree, Void none) {
            faults.add(at(tree) + "synchronized");
            return null;
        }

        @Override
        public Void visitTry(TryTree tree, Void none) {
            faults.add(at(tree) + "a try, of which the program has no need");
            return null;
        }

        @Override
        public Void visitCatch(CatchTree tree, Void none) {
            faults.add(at(tree) + "a catch");
            return null;
        }

        @Override
        public Void visitInstanceOf(InstanceOfTree tree, Void none) {
            faults.add(at(tree) + "instanceof, of which the program has no need");
            return null;
        }
    }
}
