import com.sun.source.tree.AssertTree;
import com.sun.source.tree.BinaryTree;
import com.sun.source.tree.ClassTree;
import com.sun.source.tree.CompilationUnitTree;
import com.sun.source.tree.CompoundAssignmentTree;
import com.sun.source.tree.DoWhileLoopTree;
import com.sun.source.tree.EnhancedForLoopTree;
import com.sun.source.tree.ExpressionTree;
import com.sun.source.tree.ForLoopTree;
import com.sun.source.tree.ImportTree;
import com.sun.source.tree.LambdaExpressionTree;
import com.sun.source.tree.LiteralTree;
import com.sun.source.tree.MemberReferenceTree;
import com.sun.source.tree.MethodInvocationTree;
import com.sun.source.tree.MethodTree;
import com.sun.source.tree.NewArrayTree;
import com.sun.source.tree.NewClassTree;
import com.sun.source.tree.SynchronizedTree;
import com.sun.source.tree.ThrowTree;
import com.sun.source.tree.Tree;
import com.sun.source.tree.TryTree;
import com.sun.source.tree.VariableTree;
import com.sun.source.tree.WhileLoopTree;
import com.sun.source.util.JavacTask;
import com.sun.source.util.SourcePositions;
import com.sun.source.util.TreePathScanner;
import com.sun.source.util.Trees;
import java.io.IOException;
import java.net.URI;
import java.util.ArrayList;
import java.util.LinkedHashMap;
import java.util.LinkedHashSet;
import java.util.List;
import java.util.Map;
import java.util.Set;
import java.util.TreeSet;
import javax.lang.model.element.Element;
import javax.lang.model.element.ExecutableElement;
import javax.lang.model.element.Modifier;
import javax.lang.model.element.TypeElement;
import javax.lang.model.type.TypeMirror;
import javax.tools.JavaFileObject;
import javax.tools.SimpleJavaFileObject;
import javax.tools.ToolProvider;

/**
 * Reads a program with javac and tells where it leaves the rules of ../shared/LANGUAGE.md, as far as that can be
 * seen from its text. It is stricter than the rules where the program has no use for what they allow: no try, no
 * classes inside that are not static, no numbers with fractions, no arrays made outside constructors.
 */
final class Language extends TreePathScanner<Void, Void> {
    private static final Set<String> IMPORTS = Set.of("java.util.ArrayList", "java.util.List");
    private static final Set<String> LIBRARY = Set.of(
        "String.length", "String.charAt", "String.isEmpty", "String.equals", "String.indexOf", "String.substring",
        "String.toCharArray", "StringBuilder.append", "StringBuilder.charAt", "StringBuilder.setCharAt",
        "StringBuilder.setLength", "StringBuilder.deleteCharAt", "StringBuilder.reverse", "StringBuilder.length",
        "StringBuilder.toString", "List.of",
        "ArrayList.add", "ArrayList.get", "ArrayList.set", "ArrayList.remove", "ArrayList.size", "ArrayList.isEmpty",
        "ArrayList.clear", "List.add", "List.get", "List.set", "List.remove", "List.size", "List.isEmpty",
        "List.clear", "Integer.compare", "Integer.max", "Integer.min", "Integer.bitCount", "Long.compare",
        "Long.bitCount", "Math.max", "Math.min", "Math.abs", "Math.floorDiv", "Math.floorMod", "System.arraycopy",
        "Arrays.copyOf", "Arrays.copyOfRange", "Arrays.fill");
    private static final Set<String> NUMBERS = Set.of("int", "long", "short", "byte", "char", "boolean");
    private static final Set<String> OBJECTS = Set.of("java.lang.String", "java.lang.StringBuilder",
        "java.lang.Integer");
    private static final Set<String> CONSTANTS = Set.of("int", "long", "boolean", "char", "String", "java.lang.String",
        "int[]", "long[]", "char[]", "byte[]");
    private static final Set<String> EXCEPTIONS = Set.of("IllegalStateException", "IllegalArgumentException",
        "IndexOutOfBoundsException", "ArithmeticException", "UnsupportedOperationException",
        "NoSuchElementException", "RuntimeException");
    private static final int MOST_PARAMETERS = 7;
    private static final int MOST_LINES = 60;
    private static final int DEEPEST = 8;
    private static final int MOST_CLASSES = 12;
    private static final int MOST_FIELDS = 20;

    /** A method of the program: what it calls, and what it throws itself. */
    private static final class Way {
        final ExecutableElement method;
        final Set<ExecutableElement> calls = new LinkedHashSet<>();
        final Set<String> thrown = new TreeSet<>();

        Way(ExecutableElement method) {
            this.method = method;
        }
    }

    private final List<String> breaches = new ArrayList<>();
    private final Set<String> ownClasses = new TreeSet<>();
    private final Map<ExecutableElement, Way> ways = new LinkedHashMap<>();
    private final CompilationUnitTree unit;
    private final Trees trees;
    private Way way;
    private int loops;
    private int classes;

    private Language(CompilationUnitTree unit, Trees trees) {
        this.unit = unit;
        this.trees = trees;
    }

    /** Each as "rule N, line L: what". */
    static List<String> breaches(String program) throws IOException {
        JavacTask task = (JavacTask) ToolProvider.getSystemJavaCompiler()
            .getTask(null, null, null, List.of("-proc:none"), null, List.of(new Text(program)));
        CompilationUnitTree unit = task.parse().iterator().next();
        task.analyze();
        Language language = new Language(unit, Trees.instance(task));
        new OwnClasses(language.ownClasses).scan(unit, null);
        language.scan(unit, null);
        language.calls();
        return language.breaches;
    }

    private static final class Text extends SimpleJavaFileObject {
        private final String text;

        Text(String text) {
            super(URI.create("string:///WheelWorks.java"), JavaFileObject.Kind.SOURCE);
            this.text = text;
        }

        @Override
        public CharSequence getCharContent(boolean ignoreEncodingErrors) {
            return text;
        }
    }

    private static final class OwnClasses extends TreePathScanner<Void, Void> {
        private final Set<String> names;

        OwnClasses(Set<String> names) {
            this.names = names;
        }

        @Override
        public Void visitClass(ClassTree tree, Void none) {
            names.add(tree.getSimpleName().toString());
            return super.visitClass(tree, none);
        }
    }

    private void rule(int number, Tree at, String what, boolean holds) {
        if (!holds) {
            long position = trees.getSourcePositions().getStartPosition(unit, at);
            breaches.add("rule " + number + ", line " + unit.getLineMap().getLineNumber(position) + ": " + what);
        }
    }

    private Element element() {
        return trees.getElement(getCurrentPath());
    }

    private String typeOf(Tree tree) {
        TypeMirror type = trees.getTypeMirror(trees.getPath(unit, tree));
        return type == null ? "" : type.toString();
    }

    private boolean isInConstructor() {
        return way == null || way.method.getSimpleName().contentEquals("<init>");
    }

    // ---- rules 1, 2 and 5: the file, its classes and fields

    @Override
    public Void visitCompilationUnit(CompilationUnitTree tree, Void none) {
        rule(1, tree, "a package line", tree.getPackage() == null);
        rule(1, tree, "more than one class outside", tree.getTypeDecls().size() == 1);
        for (ImportTree one : tree.getImports()) {
            String name = one.getQualifiedIdentifier().toString();
            rule(4, one, "import of " + name, IMPORTS.contains(name) && !one.isStatic());
        }
        return super.visitCompilationUnit(tree, none);
    }

    @Override
    public Void visitClass(ClassTree tree, Void none) {
        classes++;
        rule(11, tree, "too many classes", classes <= MOST_CLASSES);
        Element owner = element().getEnclosingElement();
        boolean inside = owner instanceof TypeElement;
        rule(2, tree, "a local or anonymous class", inside || getCurrentPath().getParentPath().getLeaf() == unit);
        Set<Modifier> modifiers = element().getModifiers();
        rule(1, tree, "an open class inside", !inside
            || modifiers.contains(Modifier.STATIC) && !modifiers.contains(Modifier.PUBLIC)
            && !modifiers.contains(Modifier.PROTECTED));
        int fields = 0;
        for (Tree member : tree.getMembers()) {
            rule(5, member, "an initialiser block", member.getKind() != Tree.Kind.BLOCK);
            if (member instanceof VariableTree) {
                VariableTree field = (VariableTree) member;
                boolean constant = field.getModifiers().getFlags().contains(Modifier.STATIC);
                fields += constant ? 0 : 1;
                rule(5, field, "static state " + field.getName(), !constant || isConstant(field));
            }
        }
        rule(11, tree, "too many fields", fields <= MOST_FIELDS);
        return super.visitClass(tree, none);
    }

    private static boolean isConstant(VariableTree field) {
        return field.getModifiers().getFlags().contains(Modifier.FINAL)
            && CONSTANTS.contains(field.getType().toString());
    }

    // ---- rule 3: types

    @Override
    public Void visitVariable(VariableTree tree, Void none) {
        String type = typeOf(tree);
        rule(3, tree, "type " + type, isAllowed(type));
        return super.visitVariable(tree, none);
    }

    private boolean isAllowed(String type) {
        String inList = type.replaceFirst("^java\\.util\\.(ArrayList|List)<(.*)>$", "$2");
        if (!inList.equals(type)) {
            return isOwn(inList) || inList.equals("java.lang.Integer");
        }
        String row = type.replaceFirst("\\[\\]$", "");
        return NUMBERS.contains(row.replaceFirst("\\[\\]$", "")) || isOwn(row) || OBJECTS.contains(type);
    }

    private boolean isOwn(String type) {
        return ownClasses.contains(type.substring(type.lastIndexOf('.') + 1));
    }

    // ---- rules 1, 6, 11: methods and what they throw

    @Override
    public Void visitMethod(MethodTree tree, Void none) {
        rule(11, tree, "too many parameters", tree.getParameters().size() <= MOST_PARAMETERS);
        SourcePositions positions = trees.getSourcePositions();
        long lines = unit.getLineMap().getLineNumber(Math.max(positions.getEndPosition(unit, tree), 0))
            - unit.getLineMap().getLineNumber(positions.getStartPosition(unit, tree)) + 1;
        rule(11, tree, "too many lines in " + tree.getName(), lines <= MOST_LINES);
        Way around = way;
        way = new Way((ExecutableElement) element());
        ways.put(way.method, way);
        super.visitMethod(tree, none);
        way = around;
        return null;
    }

    @Override
    public Void visitThrow(ThrowTree tree, Void none) {
        rule(6, tree, "a throw in a constructor", !isInConstructor());
        boolean plain = tree.getExpression() instanceof NewClassTree;
        if (plain) {
            NewClassTree made = (NewClassTree) tree.getExpression();
            String name = made.getIdentifier().toString();
            plain = EXCEPTIONS.contains(name) && made.getArguments().size() <= 1;
            for (ExpressionTree text : made.getArguments()) {
                plain &= text instanceof LiteralTree && ((LiteralTree) text).getValue() instanceof String;
            }
            if (way != null) {
                way.thrown.add(name);
            }
        }
        rule(6, tree, "a throw of another form", plain);
        return super.visitThrow(tree, none);
    }

    @Override
    public Void visitTry(TryTree tree, Void none) {
        rule(6, tree, "try", false);
        return super.visitTry(tree, none);
    }

    @Override
    public Void visitSynchronized(SynchronizedTree tree, Void none) {
        rule(6, tree, "synchronized", false);
        return super.visitSynchronized(tree, none);
    }

    @Override
    public Void visitAssert(AssertTree tree, Void none) {
        rule(6, tree, "assert", false);
        return super.visitAssert(tree, none);
    }

    // ---- rules 2, 4 and 12: what is called and made

    @Override
    public Void visitLambdaExpression(LambdaExpressionTree tree, Void none) {
        rule(2, tree, "a lambda", false);
        return super.visitLambdaExpression(tree, none);
    }

    @Override
    public Void visitMemberReference(MemberReferenceTree tree, Void none) {
        rule(2, tree, "a method reference", false);
        return super.visitMemberReference(tree, none);
    }

    @Override
    public Void visitMethodInvocation(MethodInvocationTree tree, Void none) {
        ExecutableElement called = (ExecutableElement) element();
        TypeElement owner = (TypeElement) called.getEnclosingElement();
        boolean constructor = called.getSimpleName().contentEquals("<init>");
        if (owner.getQualifiedName().toString().startsWith("WheelWorks")) {
            if (way != null) {
                way.calls.add(called);
            }
        } else if (!constructor) {
            String name = owner.getSimpleName() + "." + called.getSimpleName();
            rule(4, tree, "a call of " + name, LIBRARY.contains(name));
        }
        return super.visitMethodInvocation(tree, none);
    }

    @Override
    public Void visitNewClass(NewClassTree tree, Void none) {
        String type = tree.getIdentifier().toString().replaceFirst("<.*", "");
        boolean thrown = getCurrentPath().getParentPath().getLeaf() instanceof ThrowTree;
        rule(4, tree, "an object of " + type, thrown || ownClasses.contains(type)
            || type.equals("ArrayList") || type.equals("StringBuilder"));
        rule(12, tree, "an object made in a loop", thrown || loops == 0 || isInConstructor());
        return super.visitNewClass(tree, none);
    }

    @Override
    public Void visitNewArray(NewArrayTree tree, Void none) {
        rule(12, tree, "an array made in a method", isInConstructor());
        return super.visitNewArray(tree, none);
    }

    @Override
    public Void visitBinary(BinaryTree tree, Void none) {
        boolean texts = typeOf(tree.getLeftOperand()).equals("java.lang.String")
            || typeOf(tree.getRightOperand()).equals("java.lang.String");
        rule(10, tree, "texts joined by +", !(texts && tree.getKind() == Tree.Kind.PLUS));
        boolean same = tree.getKind() == Tree.Kind.EQUAL_TO || tree.getKind() == Tree.Kind.NOT_EQUAL_TO;
        rule(6, tree, "texts compared by ==", !(texts && same));
        return super.visitBinary(tree, none);
    }

    @Override
    public Void visitCompoundAssignment(CompoundAssignmentTree tree, Void none) {
        rule(10, tree, "texts joined by +=", !typeOf(tree.getVariable()).equals("java.lang.String"));
        return super.visitCompoundAssignment(tree, none);
    }

    // ---- rule 9: loops

    @Override
    public Void visitForLoop(ForLoopTree tree, Void none) {
        bound(tree, tree.getCondition());
        loops++;
        super.visitForLoop(tree, none);
        loops--;
        return null;
    }

    private void bound(Tree loop, ExpressionTree condition) {
        rule(9, loop, "a loop without a bound", condition != null && !condition.toString().equals("(true)")
            && !condition.toString().equals("true"));
    }

    @Override
    public Void visitEnhancedForLoop(EnhancedForLoopTree tree, Void none) {
        rule(12, tree, "a loop that makes an iterator", typeOf(tree.getExpression()).endsWith("[]"));
        loops++;
        super.visitEnhancedForLoop(tree, none);
        loops--;
        return null;
    }

    @Override
    public Void visitWhileLoop(WhileLoopTree tree, Void none) {
        bound(tree, tree.getCondition());
        loops++;
        super.visitWhileLoop(tree, none);
        loops--;
        return null;
    }

    @Override
    public Void visitDoWhileLoop(DoWhileLoopTree tree, Void none) {
        bound(tree, tree.getCondition());
        loops++;
        super.visitDoWhileLoop(tree, none);
        loops--;
        return null;
    }

    // ---- rules 1, 6, 8 and 11: what calls what

    private void calls() {
        Set<String> face = new TreeSet<>();
        for (Way one : ways.values()) {
            if (isOfFace(one)) {
                face.add(one.method.getSimpleName().toString());
            }
        }
        for (Way one : ways.values()) {
            Tree at = trees.getTree(one.method);
            String name = one.method.getSimpleName().toString();
            if (isOfFace(one)) {
                String declared = named(one.method.getThrownTypes()).toString();
                String thrown = thrown(one, new TreeSet<>(), 0).toString();
                rule(6, at, name + " throws " + thrown + ", it tells " + declared, thrown.equals(declared));
            } else {
                rule(1, at, name + " bears the name of the face's", name.equals("<init>") || !face.contains(name));
            }
            rule(11, at, name + " goes too deep", depth(one, 0) <= DEEPEST);
            rule(8, at, name + " calls itself, but is not private, static and with its depth",
                !one.calls.contains(one.method) || mayCallItself(one.method));
        }
    }

    private static boolean isOfFace(Way one) {
        boolean outside = !(one.method.getEnclosingElement().getEnclosingElement() instanceof TypeElement);
        return outside && one.method.getModifiers().contains(Modifier.PUBLIC)
            && !one.method.getSimpleName().contentEquals("<init>");
    }

    private static boolean mayCallItself(ExecutableElement method) {
        boolean counts = false;
        for (Element parameter : method.getParameters()) {
            counts |= parameter.asType().toString().equals("int");
        }
        return counts && method.getModifiers().contains(Modifier.PRIVATE)
            && method.getModifiers().contains(Modifier.STATIC);
    }

    private static Set<String> named(List<? extends TypeMirror> types) {
        Set<String> names = new TreeSet<>();
        for (TypeMirror type : types) {
            names.add(type.toString().replaceFirst(".*\\.", ""));
        }
        return names;
    }

    private Set<String> thrown(Way one, Set<String> found, int depth) {
        found.addAll(one.thrown);
        for (ExecutableElement called : one.calls) {
            if (ways.containsKey(called) && depth <= DEEPEST) {
                thrown(ways.get(called), found, depth + 1);
            }
        }
        return found;
    }

    /** How many calls stand open at once, a call of a method by itself not counted; more than enough in a circle. */
    private int depth(Way one, int open) {
        int deepest = 0;
        for (ExecutableElement called : one.calls) {
            if (ways.containsKey(called) && called != one.method && open <= DEEPEST) {
                deepest = Math.max(deepest, depth(ways.get(called), open + 1));
            }
        }
        return deepest + 1;
    }
}
