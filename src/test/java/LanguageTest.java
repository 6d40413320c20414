import com.sun.source.tree.*;
import com.sun.source.util.*;
import java.nio.file.Files;
import java.nio.file.Path;
import java.util.*;
import java.util.regex.*;
import javax.lang.model.element.*;
import javax.lang.model.type.TypeKind;
import javax.lang.model.type.TypeMirror;
import javax.tools.*;

/**
 * Looks whether src/main/java/Callorder.java keeps those rules of ../shared/LANGUAGE.md that can be seen from
 * its text: the face, the library, exceptions, static fields, and how long and deep things may be.
 */
public final class LanguageTest {
    private static final String FILE = "src/main/java/Callorder.java";
    private static final Set<String> THROWN = Set.of("IllegalStateException", "IllegalArgumentException",
            "IndexOutOfBoundsException", "ArithmeticException", "UnsupportedOperationException",
            "NoSuchElementException", "RuntimeException");
    private static final Set<String> LIBRARY = Set.of(
            "String.length", "String.charAt", "String.isEmpty", "String.equals", "String.indexOf",
            "String.substring", "String.toCharArray",
            "StringBuilder.append", "StringBuilder.charAt", "StringBuilder.setCharAt", "StringBuilder.setLength",
            "StringBuilder.deleteCharAt", "StringBuilder.reverse", "StringBuilder.length", "StringBuilder.toString",
            "ArrayList.add", "ArrayList.get", "ArrayList.set", "ArrayList.remove", "ArrayList.size",
            "ArrayList.isEmpty", "ArrayList.clear", "List.of",
            "Integer.compare", "Integer.bitCount", "Math.min", "Math.max", "Math.abs", "Math.floorDiv",
            "Math.floorMod", "Long.compare", "Long.bitCount", "System.arraycopy", "Arrays.copyOf",
            "Arrays.copyOfRange", "Arrays.fill");
    private static final Set<String> MADE = Set.of("StringBuilder", "ArrayList", "String");

    private static int wrong = 0;

    private static void blame(String rule, String what) {
        wrong++;
        System.out.println("rule " + rule + ": " + what);
    }

    public static void main(String[] args) throws Exception {
        JavaCompiler compiler = ToolProvider.getSystemJavaCompiler();
        StandardJavaFileManager files = compiler.getStandardFileManager(null, null, null);
        JavacTask task = (JavacTask) compiler.getTask(null, files, null, List.of("-proc:none"), null,
                files.getJavaFileObjects(FILE));
        CompilationUnitTree unit = task.parse().iterator().next();
        task.analyze();
        new Look(unit, Trees.instance(task)).all();
        lookAtFace();
        lookAtSigns();
        System.out.println("LanguageTest: " + wrong + " rules broken");
        if (wrong > 0) {
            System.exit(1);
        }
    }

    /** The methods of the document's code block must be there with their very words, and no others. */
    private static void lookAtFace() throws Exception {
        String doc = Files.readString(Path.of("../shared/DOC.md"));
        Matcher face = Pattern.compile("```java\\s*public final class Callorder \\{(.*?)\\n\\}", Pattern.DOTALL).matcher(doc);
        if (!face.find()) {
            blame("1", "the document has no face");
            return;
        }
        Set<String> due = new TreeSet<>();
        for (String line : face.group(1).split(";")) {
            if (!line.isBlank()) {
                due.add(line.trim().replaceAll("\\s+", " "));
            }
        }
        Set<String> got = new TreeSet<>();
        Matcher method = Pattern.compile("\\n    (public [^;{=]*?\\))(\\s+throws [^{]*?)?\\s*\\{").matcher(Files.readString(Path.of(FILE)));
        while (method.find()) {
            String throwing = method.group(2) == null ? "" : " " + method.group(2).trim();
            got.add((method.group(1) + throwing).replaceAll("\\s+", " "));
        }
        for (String line : due) {
            if (!got.contains(line)) {
                blame("1", "missing: " + line);
            }
        }
        for (String line : got) {
            if (!due.contains(line)) {
                blame("1", "not in the document: " + line);
            }
        }
    }

    private static void lookAtSigns() throws Exception {
        for (char sign : Files.readString(Path.of(FILE)).toCharArray()) {
            if (sign > 126 || sign < 32 && sign != '\n') {
                blame("4", "a sign of number " + (int) sign);
                return;
            }
        }
    }

    private static final class Look extends TreePathScanner<Void, Void> {
        private final CompilationUnitTree unit;
        private final Trees trees;
        private final Map<ExecutableElement, Set<ExecutableElement>> calls = new LinkedHashMap<>();
        private final Map<ExecutableElement, MethodTree> methods = new LinkedHashMap<>();
        private final Set<String> publicNames = new HashSet<>();
        private int classes = 0;

        Look(CompilationUnitTree unit, Trees trees) {
            this.unit = unit;
            this.trees = trees;
        }

        void all() {
            if (unit.getPackageName() != null || unit.getTypeDecls().size() != 1 || !unit.getImports().isEmpty()) {
                blame("1", "a package line, an import, or more than one class");
            }
            ClassTree top = (ClassTree) unit.getTypeDecls().get(0);
            for (Tree member : top.getMembers()) {
                if (member instanceof MethodTree m && m.getModifiers().getFlags().contains(Modifier.PUBLIC)) {
                    publicNames.add(m.getName().toString());
                }
            }
            scan(unit, null);
            if (classes > 12) {
                blame("11", classes + " classes");
            }
            lookAtDepth();
        }

        private String where(Tree tree) {
            return FILE + ":" + line(tree, false);
        }

        private long line(Tree tree, boolean isEnd) {
            SourcePositions at = trees.getSourcePositions();
            long sign = isEnd ? at.getEndPosition(unit, tree) : at.getStartPosition(unit, tree);
            return unit.getLineMap().getLineNumber(sign);
        }

        private Element element(Tree tree) {
            return trees.getElement(new TreePath(getCurrentPath(), tree));
        }

        @Override
        public Void visitClass(ClassTree tree, Void nothing) {
            classes++;
            boolean isTop = getCurrentPath().getParentPath().getLeaf() == unit;
            Set<Modifier> flags = tree.getModifiers().getFlags();
            if (isTop && !flags.equals(Set.of(Modifier.PUBLIC, Modifier.FINAL))) {
                blame("1", "the class is not public and final");
            }
            if (!isTop && (flags.contains(Modifier.PUBLIC) || flags.contains(Modifier.PROTECTED) || !flags.contains(Modifier.STATIC))) {
                blame("1", where(tree) + " a class inside is not private and static");
            }
            int fields = 0;
            for (Tree member : tree.getMembers()) {
                if (member instanceof VariableTree v) {
                    Set<Modifier> own = v.getModifiers().getFlags();
                    if (isTop && !own.contains(Modifier.PRIVATE)) {
                        blame("1", where(v) + " a field that is not private");
                    }
                    if (own.contains(Modifier.STATIC)) {
                        lookAtConstant(v, own);
                    } else {
                        fields++;
                    }
                } else if (member instanceof BlockTree b && b.isStatic()) {
                    blame("5", where(b) + " a static block");
                } else if (member instanceof MethodTree m && isTop) {
                    lookAtReach(m);
                }
            }
            if (fields > 20) {
                blame("11", tree.getSimpleName() + " has " + fields + " fields");
            }
            return super.visitClass(tree, nothing);
        }

        private void lookAtConstant(VariableTree v, Set<Modifier> own) {
            String type = v.getType().toString();
            boolean isPlain = Set.of("int", "long", "boolean", "char", "String").contains(type);
            boolean isRow = Set.of("int[]", "long[]", "char[]", "byte[]").contains(type);
            if (!own.contains(Modifier.FINAL) || v.getInitializer() == null || !isPlain && !isRow) {
                blame("5", where(v) + " a static field that is no constant");
            }
        }

        private void lookAtReach(MethodTree m) {
            Set<Modifier> flags = m.getModifiers().getFlags();
            if (!flags.contains(Modifier.PUBLIC) && !flags.contains(Modifier.PRIVATE)) {
                blame("1", where(m) + " a method that is neither public nor private");
            }
        }

        @Override
        public Void visitMethod(MethodTree tree, Void nothing) {
            String name = tree.getName().toString();
            if (!tree.getModifiers().getFlags().contains(Modifier.PUBLIC) && publicNames.contains(name) && !name.equals("<init>")) {
                blame("1", where(tree) + " bears the name of a public method: " + name);
            }
            if (tree.getParameters().size() > 7) {
                blame("11", where(tree) + " has more than seven parameters");
            }
            if (tree.getBody() != null && line(tree, true) - line(tree, false) + 1 > 60) {
                blame("11", where(tree) + " " + name + " has more than sixty lines");
            }
            ExecutableElement own = (ExecutableElement) element(tree);
            calls.put(own, new LinkedHashSet<>());
            methods.put(own, tree);
            return super.visitMethod(tree, nothing);
        }

        private ExecutableElement around() {
            for (Tree tree : getCurrentPath()) {
                if (tree instanceof MethodTree m) {
                    return (ExecutableElement) trees.getElement(TreePath.getPath(unit, m));
                }
            }
            return null;
        }

        private boolean isOwn(Element e) {
            Element up = e;
            while (up != null && up.getKind() != ElementKind.PACKAGE) {
                if (up.getSimpleName().contentEquals("Callorder")) {
                    return true;
                }
                up = up.getEnclosingElement();
            }
            return false;
        }

        @Override
        public Void visitMethodInvocation(MethodInvocationTree tree, Void nothing) {
            Element called = element(tree.getMethodSelect());
            String name = called.getEnclosingElement().getSimpleName() + "." + called.getSimpleName();
            if (isOwn(called)) {
                if (around() != null) {
                    calls.get(around()).add((ExecutableElement) called);
                }
            } else if (!LIBRARY.contains(name) && !name.equals("Object.<init>")) {
                // StringBuilder's own methods may stand in the class above it
                if (!name.startsWith("AbstractStringBuilder.") && !name.startsWith("CharSequence.")) {
                    blame("4", where(tree) + " calls " + name);
                } else if (!LIBRARY.contains("StringBuilder." + called.getSimpleName())) {
                    blame("4", where(tree) + " calls " + name);
                }
            }
            return super.visitMethodInvocation(tree, nothing);
        }

        @Override
        public Void visitNewClass(NewClassTree tree, Void nothing) {
            Element made = element(tree);
            if (isOwn(made)) {
                if (around() != null) {
                    calls.get(around()).add((ExecutableElement) made);
                }
            } else {
                String name = made.getEnclosingElement().getSimpleName().toString();
                boolean isThrown = getCurrentPath().getParentPath().getLeaf() instanceof ThrowTree && THROWN.contains(name);
                if (!isThrown && !MADE.contains(name)) {
                    blame("4", where(tree) + " makes " + name);
                }
                for (ExpressionTree argument : tree.getArguments()) {
                    if (isThrown && argument.getKind() != Tree.Kind.STRING_LITERAL) {
                        blame("6", where(tree) + " throws with no written text");
                    }
                }
            }
            return super.visitNewClass(tree, nothing);
        }

        @Override
        public Void visitThrow(ThrowTree tree, Void nothing) {
            if (!(tree.getExpression() instanceof NewClassTree)) {
                blame("6", where(tree) + " throws no new exception");
            }
            if (around() != null && around().getKind() == ElementKind.CONSTRUCTOR) {
                blame("6", where(tree) + " throws in a constructor");
            }
            return super.visitThrow(tree, nothing);
        }

        @Override
        public Void visitTry(TryTree tree, Void nothing) {
            if (tree.getFinallyBlock() != null || !tree.getResources().isEmpty()) {
                blame("6", where(tree) + " finally, or try with resources");
            }
            for (CatchTree one : tree.getCatches()) {
                if (!THROWN.contains(one.getParameter().getType().toString())) {
                    blame("6", where(tree) + " catches " + one.getParameter().getType());
                }
            }
            return super.visitTry(tree, nothing);
        }

        @Override
        public Void visitLambdaExpression(LambdaExpressionTree tree, Void nothing) {
            blame("2", where(tree) + " a lambda");
            return super.visitLambdaExpression(tree, nothing);
        }

        @Override
        public Void visitMemberReference(MemberReferenceTree tree, Void nothing) {
            blame("2", where(tree) + " a method reference");
            return super.visitMemberReference(tree, nothing);
        }

        @Override
        public Void visitMemberSelect(MemberSelectTree tree, Void nothing) {
            Element e = element(tree);
            if (e != null && e.getKind() == ElementKind.FIELD && !isOwn(e)
                    && !tree.getIdentifier().contentEquals("length")) {
                blame("4", where(tree) + " uses " + tree);
            }
            return super.visitMemberSelect(tree, nothing);
        }

        private boolean isText(Tree tree) {
            TypeMirror type = trees.getTypeMirror(new TreePath(getCurrentPath(), tree));
            return type != null && type.getKind() == TypeKind.DECLARED && type.toString().equals("java.lang.String");
        }

        @Override
        public Void visitBinary(BinaryTree tree, Void nothing) {
            boolean isJoined = tree.getKind() == Tree.Kind.PLUS;
            boolean isCompared = tree.getKind() == Tree.Kind.EQUAL_TO || tree.getKind() == Tree.Kind.NOT_EQUAL_TO;
            if ((isJoined || isCompared) && (isText(tree.getLeftOperand()) || isText(tree.getRightOperand()))) {
                blame(isJoined ? "10" : "6", where(tree) + " joins or compares texts by a sign");
            }
            boolean isDivided = tree.getKind() == Tree.Kind.DIVIDE || tree.getKind() == Tree.Kind.REMAINDER;
            if (isDivided && tree.getRightOperand().getKind() != Tree.Kind.INT_LITERAL) {
                TreePath path = getCurrentPath();
                boolean isTested = false;
                for (Tree up : path) {
                    isTested |= up instanceof ConditionalExpressionTree;
                }
                if (!isTested) {
                    blame("7", where(tree) + " divides by what is not tested there");
                }
            }
            return super.visitBinary(tree, nothing);
        }

        @Override
        public Void visitWhileLoop(WhileLoopTree tree, Void nothing) {
            if (tree.getCondition().toString().equals("(true)")) {
                blame("9", where(tree) + " a loop whose end cannot be seen");
            }
            return super.visitWhileLoop(tree, nothing);
        }

        @Override
        public Void visitForLoop(ForLoopTree tree, Void nothing) {
            if (tree.getCondition() == null) {
                blame("9", where(tree) + " a loop whose end cannot be seen");
            }
            return super.visitForLoop(tree, nothing);
        }

        /** A method that calls itself counts as one; methods that call one another are not looked for here. */
        private void lookAtDepth() {
            Map<ExecutableElement, Integer> known = new HashMap<>();
            for (ExecutableElement m : calls.keySet()) {
                if (m.getModifiers().contains(Modifier.PUBLIC)) {
                    List<String> row = new ArrayList<>();
                    int depth = depthOf(m, known, new HashSet<>(), row);
                    if (depth > 8) {
                        blame("11", m.getSimpleName() + " goes " + depth + " calls deep: " + deepest(m, known));
                    }
                }
            }
        }

        private int depthOf(ExecutableElement m, Map<ExecutableElement, Integer> known, Set<ExecutableElement> open, List<String> row) {
            if (known.containsKey(m)) {
                return known.get(m);
            }
            if (!open.add(m)) {
                blame("8", m.getSimpleName() + " is called again by what it calls");
                return 100;
            }
            int deepest = 0;
            for (ExecutableElement next : calls.getOrDefault(m, Set.of())) {
                if (!next.equals(m)) {
                    deepest = Math.max(deepest, depthOf(next, known, open, row));
                } else if (!m.getModifiers().contains(Modifier.PRIVATE)) {
                    blame("8", m.getSimpleName() + " calls itself and is not private");
                }
            }
            open.remove(m);
            known.put(m, deepest + 1);
            return deepest + 1;
        }

        private String deepest(ExecutableElement m, Map<ExecutableElement, Integer> known) {
            StringBuilder out = new StringBuilder(m.getSimpleName());
            ExecutableElement at = m;
            for (int i = 0; i < 20; i++) {
                ExecutableElement best = null;
                for (ExecutableElement next : calls.getOrDefault(at, Set.of())) {
                    if (!next.equals(at) && (best == null || known.getOrDefault(next, 0) > known.getOrDefault(best, 0))) {
                        best = next;
                    }
                }
                if (best == null) {
                    break;
                }
                out.append(" > ").append(best.getSimpleName());
                at = best;
            }
            return out.toString();
        }
    }
}
