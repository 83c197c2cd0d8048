import com.sun.source.tree.*;
import com.sun.source.util.JavacTask;
import com.sun.source.util.TreePath;
import com.sun.source.util.TreePathScanner;
import com.sun.source.util.Trees;
import java.net.URI;
import java.util.ArrayList;
import java.util.LinkedHashMap;
import java.util.LinkedHashSet;
import java.util.List;
import java.util.Map;
import java.util.Set;
import javax.lang.model.element.Element;
import javax.lang.model.element.ElementKind;
import javax.lang.model.element.ExecutableElement;
import javax.lang.model.element.Modifier;
import javax.lang.model.element.TypeElement;
import javax.lang.model.element.VariableElement;
import javax.lang.model.type.ArrayType;
import javax.lang.model.type.DeclaredType;
import javax.lang.model.type.TypeKind;
import javax.lang.model.type.TypeMirror;
import javax.tools.JavaFileObject;
import javax.tools.SimpleJavaFileObject;
import javax.tools.ToolProvider;

/**
 * Which rules of LANGUAGE.md a program breaks, read off its syntax tree. Where a rule leaves more than this class needs
 * (records, enums, lists, doubles), it is held to less: what is used anew has to be let in here first.
 */
final class Language {
    private static final Set<String> LIBRARY = Set.of(
        "java.lang.Math.min", "java.lang.Math.max", "java.lang.Math.abs", "java.lang.Math.floorDiv",
        "java.lang.Math.floorMod", "java.lang.Integer.bitCount", "java.lang.Integer.compare", "java.lang.Long.compare",
        "java.lang.System.arraycopy", "java.util.Arrays.fill", "java.util.Arrays.copyOf", "java.util.Arrays.copyOfRange");
    private static final Set<String> NOT_OWN = Set.of("equals", "hashCode", "toString", "getClass", "finalize", "clone",
        "notify", "notifyAll", "wait");
    private static final int PARAMETERS = 7, LINES = 60, CALLS = 8, CLASSES = 12, FIELDS = 20;

    private final List<String> broken = new ArrayList<>();
    private final Map<Element, Set<Element>> calls = new LinkedHashMap<>();
    private final Map<Element, MethodTree> methods = new LinkedHashMap<>();
    private CompilationUnitTree unit;
    private Trees trees;
    private int classes;

    private Language() {
    }

    /** Each as "rule N, line L: what". */
    static List<String> brokenBy(String source) {
        Language language = new Language();
        language.read(source);
        return language.broken;
    }

    private void read(String source) {
        JavaFileObject file = new SimpleJavaFileObject(URI.create("string:///BuildEngine.java"),
            JavaFileObject.Kind.SOURCE) {
            @Override
            public CharSequence getCharContent(boolean ignored) {
                return source;
            }
        };
        JavacTask task = (JavacTask) ToolProvider.getSystemJavaCompiler().getTask(null, null,
            told -> { }, List.of("-proc:none", "--release", "17"), null, List.of(file));
        try {
            unit = task.parse().iterator().next();
            task.analyze();
        } catch (java.io.IOException never) {
            throw new IllegalStateException(never);
        }
        trees = Trees.instance(task);
        if (unit.getPackageName() != null) {
            broken.add("rule 1, line 1: a package line");
        }
        if (unit.getTypeDecls().size() != 1) {
            broken.add("rule 1, line 1: not one class beside the imports");
        }
        new Looker().scan(unit, null);
        if (classes > CLASSES) {
            broken.add("rule 11, line 1: " + classes + " classes");
        }
        recursion();
        depth();
    }

    private void breaks(int rule, Tree tree, String what) {
        long place = trees.getSourcePositions().getStartPosition(unit, tree);
        long line = place < 0 ? 0 : unit.getLineMap().getLineNumber(place);
        broken.add("rule " + rule + ", line " + line + ": " + what);
    }

    private long linesOf(Tree tree) {
        long start = trees.getSourcePositions().getStartPosition(unit, tree);
        long end = trees.getSourcePositions().getEndPosition(unit, tree);
        return unit.getLineMap().getLineNumber(end) - unit.getLineMap().getLineNumber(start) + 1;
    }

    private boolean isOwn(Element element) {
        for (Element e = element; e != null; e = e.getEnclosingElement()) {
            if (e.getKind() == ElementKind.CLASS && e.toString().equals("BuildEngine")) {
                return true;
            }
        }
        return false;
    }

    /** Rule 8: only private methods call themselves or one another, and they carry a depth. */
    private void recursion() {
        for (Element method : calls.keySet()) {
            if (!reached(method).contains(method)) {
                continue;
            }
            MethodTree tree = methods.get(method);
            boolean carries = false;
            for (VariableTree parameter : tree.getParameters()) {
                carries |= parameter.getName().contentEquals("level");
            }
            if (!method.getModifiers().contains(Modifier.PRIVATE)) {
                breaks(8, tree, method + " calls itself and isn't private");
            }
            if (!carries) {
                breaks(8, tree, method + " calls itself and carries no level");
            }
        }
    }

    private Set<Element> reached(Element from) {
        Set<Element> found = new LinkedHashSet<>();
        List<Element> open = new ArrayList<>(calls.getOrDefault(from, Set.of()));
        while (!open.isEmpty()) {
            Element next = open.remove(open.size() - 1);
            if (found.add(next)) {
                open.addAll(calls.getOrDefault(next, Set.of()));
            }
        }
        return found;
    }

    /** Rule 11, in its strictest count: those that are recursion are counted too, each once. */
    private void depth() {
        for (Element method : calls.keySet()) {
            List<Element> longest = longestFrom(method, new LinkedHashSet<>());
            if (longest.size() > CALLS) {
                breaks(11, methods.get(method), "calls go " + longest.size() + " deep: " + longest);
            }
        }
    }

    private List<Element> longestFrom(Element method, Set<Element> before) {
        before.add(method);
        List<Element> longest = new ArrayList<>();
        for (Element next : calls.getOrDefault(method, Set.of())) {
            if (!before.contains(next)) {
                List<Element> path = longestFrom(next, before);
                if (path.size() > longest.size()) {
                    longest = path;
                }
            }
        }
        before.remove(method);
        longest.add(0, method);
        return longest;
    }

    private final class Looker extends TreePathScanner<Void, Void> {
        private Element inMethod;

        private Element here() {
            return trees.getElement(getCurrentPath());
        }

        private TypeMirror typeOf(Tree tree) {
            return trees.getTypeMirror(new TreePath(getCurrentPath(), tree));
        }

        @Override
        public Void visitImport(ImportTree tree, Void none) {
            String name = tree.getQualifiedIdentifier().toString();
            if (tree.isStatic() || !Set.of("java.util.Arrays", "java.util.ArrayList", "java.util.List").contains(name)) {
                breaks(4, tree, "import " + name);
            }
            return null;
        }

        @Override
        public Void visitClass(ClassTree tree, Void none) {
            classes++;
            Set<Modifier> modifiers = tree.getModifiers().getFlags();
            Tree parent = getCurrentPath().getParentPath().getLeaf();
            if (tree.getKind() != Tree.Kind.CLASS) {
                breaks(2, tree, "a kind of class that isn't let in here yet: " + tree.getKind());
            }
            if (!modifiers.contains(Modifier.FINAL)) {
                breaks(12, tree, tree.getSimpleName() + " isn't final, so another could override what it calls");
            }
            if (parent instanceof CompilationUnitTree) {
                if (!modifiers.contains(Modifier.PUBLIC) || !tree.getSimpleName().contentEquals("BuildEngine")) {
                    breaks(1, tree, "the class isn't the public BuildEngine");
                }
            } else if (!(parent instanceof ClassTree)) {
                breaks(2, tree, "a local or anonymous class");
            } else if (!modifiers.contains(Modifier.STATIC) || modifiers.contains(Modifier.PUBLIC)
                || modifiers.contains(Modifier.PROTECTED)) {
                breaks(2, tree, tree.getSimpleName() + " isn't static, or isn't hidden");
            }
            members(tree);
            return super.visitClass(tree, none);
        }

        private void members(ClassTree tree) {
            int fields = 0;
            for (Tree member : tree.getMembers()) {
                if (member instanceof BlockTree) {
                    breaks(5, member, "an initialiser block");
                }
                if (member instanceof VariableTree field && !field.getModifiers().getFlags().contains(Modifier.STATIC)) {
                    fields++;
                }
            }
            if (fields > FIELDS) {
                breaks(11, tree, fields + " fields");
            }
        }

        @Override
        public Void visitMethod(MethodTree tree, Void none) {
            Element outside = inMethod;
            inMethod = here();
            calls.putIfAbsent(inMethod, new LinkedHashSet<>());
            methods.put(inMethod, tree);
            Set<Modifier> modifiers = tree.getModifiers().getFlags();
            String name = tree.getName().toString();
            boolean outer = inMethod.getEnclosingElement().toString().equals("BuildEngine");
            if (outer && !modifiers.contains(Modifier.PUBLIC) && !modifiers.contains(Modifier.PRIVATE)) {
                breaks(1, tree, name + " is package-visible or protected");
            }
            for (Element other : inMethod.getEnclosingElement().getEnclosedElements()) {
                if (other != inMethod && !name.equals("<init>") && other.getSimpleName().contentEquals(name)
                    && other.getModifiers().contains(Modifier.PUBLIC) && other.getKind() == ElementKind.METHOD) {
                    breaks(1, tree, name + " bears the name of a public method");
                }
            }
            if (NOT_OWN.contains(name)) {
                breaks(6, tree, name + " of its own");
            }
            if (tree.getParameters().size() > PARAMETERS) {
                breaks(11, tree, name + " has " + tree.getParameters().size() + " parameters");
            }
            if (linesOf(tree) > LINES) {
                breaks(11, tree, name + " has " + linesOf(tree) + " lines");
            }
            if (!tree.getThrows().isEmpty() || modifiers.contains(Modifier.SYNCHRONIZED)) {
                breaks(6, tree, name + " throws or is synchronized");
            }
            if (tree.getReturnType() != null) {
                type(tree, typeOf(tree.getReturnType()));
            }
            super.visitMethod(tree, none);
            inMethod = outside;
            return null;
        }

        @Override
        public Void visitVariable(VariableTree tree, Void none) {
            Element element = here();
            type(tree, element.asType());
            Set<Modifier> modifiers = element.getModifiers();
            if (element.getKind() == ElementKind.FIELD && element.getEnclosingElement().toString().equals("BuildEngine")
                && !modifiers.contains(Modifier.PRIVATE) && !modifiers.contains(Modifier.PUBLIC)) {
                breaks(1, tree, element + " is package-visible or protected");
            }
            if (modifiers.contains(Modifier.STATIC)) {
                boolean told = ((VariableElement) element).getConstantValue() != null
                    || tree.getInitializer() instanceof NewArrayTree row && row.getInitializers() != null;
                if (!modifiers.contains(Modifier.FINAL) || !told) {
                    breaks(5, tree, element + " is static, but no constant");
                }
            }
            return super.visitVariable(tree, none);
        }

        /** Rule 3, without lists and doubles: this class needs none. */
        private void type(Tree tree, TypeMirror type) {
            if (type == null || type.getKind() == TypeKind.VOID) {
                return;
            }
            TypeMirror plain = type;
            int dimensions = 0;
            while (plain instanceof ArrayType row) {
                plain = row.getComponentType();
                dimensions++;
            }
            boolean number = plain.getKind().isPrimitive() && plain.getKind() != TypeKind.DOUBLE
                && plain.getKind() != TypeKind.FLOAT;
            boolean own = plain instanceof DeclaredType declared && isOwn(declared.asElement());
            boolean text = dimensions == 0
                && Set.of("java.lang.String", "java.lang.StringBuilder").contains(plain.toString());
            if (!number && !own && !text || dimensions > (plain.getKind().isPrimitive() ? 2 : 1)) {
                breaks(3, tree, "the type " + type);
            }
        }

        @Override
        public Void visitMethodInvocation(MethodInvocationTree tree, Void none) {
            ExecutableElement called = (ExecutableElement) here();
            String name = called.getEnclosingElement() + "." + called.getSimpleName();
            if (isOwn(called)) {
                noteCall(called);
            } else if (!called.getSimpleName().contentEquals("<init>") && !LIBRARY.contains(name)) {
                breaks(4, tree, name);
            }
            if (NOT_OWN.contains(called.getSimpleName().toString()) && !name.equals("java.lang.String.equals")) {
                breaks(6, tree, name);
            }
            if (name.startsWith("java.util.Arrays.") || name.equals("java.lang.System.arraycopy")) {
                if (!(typeOf(tree.getArguments().get(0)) instanceof ArrayType row)
                    || !row.getComponentType().getKind().isPrimitive()) {
                    breaks(4, tree, name + " of no array of numbers");
                }
            }
            return super.visitMethodInvocation(tree, none);
        }

        private void noteCall(Element called) {
            if (inMethod != null) {
                calls.get(inMethod).add(called);
            }
        }

        @Override
        public Void visitNewClass(NewClassTree tree, Void none) {
            if (tree.getClassBody() == null) {
                Element made = here();
                TypeElement type = (TypeElement) made.getEnclosingElement();
                if (isOwn(type)) {
                    noteCall(made);
                } else {
                    breaks(4, tree, "new " + type);
                }
            }
            made(tree);
            return super.visitNewClass(tree, none);
        }

        @Override
        public Void visitNewArray(NewArrayTree tree, Void none) {
            type(tree, typeOf(tree));
            made(tree);
            return super.visitNewArray(tree, none);
        }

        /** Rule 12: in a loop only where it counts up to a constant. */
        private void made(Tree tree) {
            for (TreePath path = getCurrentPath(); path != null; path = path.getParentPath()) {
                Tree around = path.getLeaf();
                if (around instanceof WhileLoopTree || around instanceof DoWhileLoopTree
                    || around instanceof EnhancedForLoopTree
                    || around instanceof ForLoopTree loop && !endsAtConstant(path, loop)) {
                    if (!isReturned(tree)) {
                        breaks(12, tree, "made in a loop without a bound");
                    }
                }
            }
        }

        /** What is answered at once is made once, whatever loop it stands in. */
        private boolean isReturned(Tree tree) {
            return getCurrentPath().getParentPath().getLeaf() instanceof ReturnTree;
        }

        private boolean endsAtConstant(TreePath path, ForLoopTree loop) {
            if (!(loop.getCondition() instanceof BinaryTree condition)) {
                return false;
            }
            Element bound = trees.getElement(new TreePath(new TreePath(path, condition), condition.getRightOperand()));
            return condition.getRightOperand() instanceof LiteralTree
                || bound instanceof VariableElement told && told.getConstantValue() != null;
        }

        @Override
        public Void visitForLoop(ForLoopTree tree, Void none) {
            if (tree.getCondition() == null || isTrue(tree.getCondition())) {
                breaks(9, tree, "a loop whose end can't be seen");
            }
            return super.visitForLoop(tree, none);
        }

        @Override
        public Void visitWhileLoop(WhileLoopTree tree, Void none) {
            if (isTrue(tree.getCondition())) {
                breaks(9, tree, "a loop whose end can't be seen");
            }
            return super.visitWhileLoop(tree, none);
        }

        @Override
        public Void visitDoWhileLoop(DoWhileLoopTree tree, Void none) {
            if (isTrue(tree.getCondition())) {
                breaks(9, tree, "a loop whose end can't be seen");
            }
            return super.visitDoWhileLoop(tree, none);
        }

        private boolean isTrue(ExpressionTree condition) {
            return condition.toString().replaceAll("[()]", "").equals("true");
        }

        @Override
        public Void visitBinary(BinaryTree tree, Void none) {
            String left = String.valueOf(typeOf(tree.getLeftOperand()));
            String right = String.valueOf(typeOf(tree.getRightOperand()));
            boolean texts = left.equals("java.lang.String") || right.equals("java.lang.String");
            if (texts && tree.getKind() == Tree.Kind.PLUS) {
                breaks(10, tree, "texts joined by +");
            }
            if (tree.getKind() == Tree.Kind.EQUAL_TO || tree.getKind() == Tree.Kind.NOT_EQUAL_TO) {
                boolean held = left.equals("java.lang.Integer") && right.equals(left);
                if (held || left.equals("java.lang.String") && right.equals(left)) {
                    breaks(6, tree, "== between two Strings or Integers");
                }
            }
            if (tree.getKind() == Tree.Kind.DIVIDE || tree.getKind() == Tree.Kind.REMAINDER) {
                divisor(tree, tree.getRightOperand());
            }
            return super.visitBinary(tree, none);
        }

        /** Rule 7: a constant, or looked at in the very line. */
        private void divisor(Tree tree, ExpressionTree divisor) {
            Element told = trees.getElement(new TreePath(getCurrentPath(), divisor));
            boolean constant = divisor instanceof LiteralTree literal && !literal.getValue().equals(0)
                || told instanceof VariableElement variable && variable.getConstantValue() instanceof Integer value
                    && value != 0;
            boolean lookedAt = getCurrentPath().getParentPath().getLeaf() instanceof ConditionalExpressionTree choice
                && choice.getFalseExpression() == tree && choice.getCondition().toString().equals(divisor + " == 0");
            if (!constant && !lookedAt) {
                breaks(7, tree, "divided by " + divisor + " without a look");
            }
        }

        @Override
        public Void visitLambdaExpression(LambdaExpressionTree tree, Void none) {
            breaks(2, tree, "a lambda");
            return super.visitLambdaExpression(tree, none);
        }

        @Override
        public Void visitMemberReference(MemberReferenceTree tree, Void none) {
            breaks(2, tree, "a method reference");
            return super.visitMemberReference(tree, none);
        }

        @Override
        public Void visitThrow(ThrowTree tree, Void none) {
            breaks(6, tree, "throw");
            return super.visitThrow(tree, none);
        }

        @Override
        public Void visitTry(TryTree tree, Void none) {
            breaks(6, tree, "try");
            return super.visitTry(tree, none);
        }

        @Override
        public Void visitSynchronized(SynchronizedTree tree, Void none) {
            breaks(6, tree, "synchronized");
            return super.visitSynchronized(tree, none);
        }

        @Override
        public Void visitAssert(AssertTree tree, Void none) {
            breaks(6, tree, "assert");
            return super.visitAssert(tree, none);
        }

        @Override
        public Void visitTypeCast(TypeCastTree tree, Void none) {
            if (!typeOf(tree.getType()).getKind().isPrimitive()) {
                breaks(6, tree, "a cast of a reference");
            }
            return super.visitTypeCast(tree, none);
        }

        @Override
        public Void visitLiteral(LiteralTree tree, Void none) {
            String told = String.valueOf(tree.getValue());
            boolean text = tree.getKind() == Tree.Kind.STRING_LITERAL || tree.getKind() == Tree.Kind.CHAR_LITERAL;
            for (int i = 0; text && i < told.length(); i++) {
                if (told.charAt(i) < 1 || told.charAt(i) > 127) {
                    breaks(4, tree, "a text with the sign " + (int) told.charAt(i));
                }
            }
            return super.visitLiteral(tree, none);
        }
    }
}
