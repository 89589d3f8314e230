import com.sun.source.tree.ArrayAccessTree;
import com.sun.source.tree.BinaryTree;
import com.sun.source.tree.BlockTree;
import com.sun.source.tree.ClassTree;
import com.sun.source.tree.CompilationUnitTree;
import com.sun.source.tree.CompoundAssignmentTree;
import com.sun.source.tree.EnhancedForLoopTree;
import com.sun.source.tree.ExpressionTree;
import com.sun.source.tree.ForLoopTree;
import com.sun.source.tree.LiteralTree;
import com.sun.source.tree.MethodInvocationTree;
import com.sun.source.tree.MethodTree;
import com.sun.source.tree.NewArrayTree;
import com.sun.source.tree.NewClassTree;
import com.sun.source.tree.ParenthesizedTree;
import com.sun.source.tree.SwitchTree;
import com.sun.source.tree.ThrowTree;
import com.sun.source.tree.Tree;
import com.sun.source.tree.TypeCastTree;
import com.sun.source.tree.VariableTree;
import com.sun.source.util.JavacTask;
import com.sun.source.util.TreePath;
import com.sun.source.util.TreePathScanner;
import com.sun.source.util.Trees;
import java.io.IOException;
import java.net.URI;
import java.util.ArrayList;
import java.util.EnumSet;
import java.util.HashMap;
import java.util.HashSet;
import java.util.LinkedHashSet;
import java.util.List;
import java.util.Map;
import java.util.Set;
import javax.lang.model.element.Element;
import javax.lang.model.element.ElementKind;
import javax.lang.model.element.Modifier;
import javax.lang.model.element.VariableElement;
import javax.lang.model.type.TypeKind;
import javax.lang.model.type.TypeMirror;
import javax.tools.DiagnosticCollector;
import javax.tools.JavaFileObject;
import javax.tools.SimpleJavaFileObject;
import javax.tools.ToolProvider;

/**
 * Holds a source against LANGUAGE.md, as far as its text shows that. It is narrower than the rules: what they allow,
 * but the class has not used so far, is found too, so that somebody looks at the rule before it is let in here.
 */
final class Language extends TreePathScanner<Void, Void> {
    private static final Set<Tree.Kind> KINDS = EnumSet.of(Tree.Kind.COMPILATION_UNIT, Tree.Kind.IMPORT,
            Tree.Kind.CLASS, Tree.Kind.METHOD, Tree.Kind.VARIABLE, Tree.Kind.MODIFIERS, Tree.Kind.PRIMITIVE_TYPE,
            Tree.Kind.ARRAY_TYPE, Tree.Kind.IDENTIFIER, Tree.Kind.MEMBER_SELECT, Tree.Kind.BLOCK, Tree.Kind.IF,
            Tree.Kind.FOR_LOOP, Tree.Kind.ENHANCED_FOR_LOOP, Tree.Kind.SWITCH, Tree.Kind.CASE, Tree.Kind.RETURN,
            Tree.Kind.THROW, Tree.Kind.EXPRESSION_STATEMENT, Tree.Kind.METHOD_INVOCATION, Tree.Kind.NEW_CLASS,
            Tree.Kind.NEW_ARRAY, Tree.Kind.ARRAY_ACCESS, Tree.Kind.ASSIGNMENT, Tree.Kind.PLUS_ASSIGNMENT,
            Tree.Kind.POSTFIX_INCREMENT, Tree.Kind.POSTFIX_DECREMENT, Tree.Kind.PARENTHESIZED, Tree.Kind.TYPE_CAST,
            Tree.Kind.CONDITIONAL_EXPRESSION, Tree.Kind.CONDITIONAL_AND, Tree.Kind.CONDITIONAL_OR,
            Tree.Kind.LOGICAL_COMPLEMENT, Tree.Kind.UNARY_MINUS, Tree.Kind.PLUS, Tree.Kind.MINUS, Tree.Kind.MULTIPLY,
            Tree.Kind.DIVIDE, Tree.Kind.REMAINDER, Tree.Kind.EQUAL_TO, Tree.Kind.NOT_EQUAL_TO, Tree.Kind.LESS_THAN,
            Tree.Kind.LESS_THAN_EQUAL, Tree.Kind.GREATER_THAN, Tree.Kind.GREATER_THAN_EQUAL, Tree.Kind.INT_LITERAL,
            Tree.Kind.LONG_LITERAL, Tree.Kind.DOUBLE_LITERAL, Tree.Kind.BOOLEAN_LITERAL, Tree.Kind.STRING_LITERAL);
    private static final Set<String> LIBRARY = Set.of("java.util.Arrays.fill(int[],int)", "java.lang.Math.abs(int)",
            "java.lang.Math.max(int,int)", "java.lang.Math.min(int,int)", "java.lang.Object.Object()");
    private static final Set<String> THROWN = Set.of("java.lang.IllegalStateException",
            "java.lang.IllegalArgumentException", "java.lang.IndexOutOfBoundsException");
    private static final Set<String> NUMBERS = Set.of("int", "long", "boolean", "double", "void", "int[]", "String");
    private static final Set<TypeKind> WHOLE = EnumSet.of(TypeKind.INT, TypeKind.LONG);

    private static final int MOST_PARAMETERS = 7;
    private static final int MOST_LINES = 60;
    private static final int MOST_DEPTH = 8;
    private static final int MOST_CLASSES = 12;
    private static final int MOST_FIELDS = 20;

    private final CompilationUnitTree unit;
    private final Trees trees;
    private final List<String> found = new ArrayList<>();
    private final Map<Element, Set<Element>> calls = new HashMap<>();
    private int classes = 0;

    private Language(CompilationUnitTree unit, Trees trees) {
        this.unit = unit;
        this.trees = trees;
    }

    /** What that source does outside the rules; each finding begins with the rule's number. */
    static List<String> findings(String source) {
        JavaFileObject file = new SimpleJavaFileObject(URI.create("string:///SurveyHouse.java"),
                JavaFileObject.Kind.SOURCE) {
            @Override
            public CharSequence getCharContent(boolean ignored) {
                return source;
            }
        };
        DiagnosticCollector<JavaFileObject> told = new DiagnosticCollector<>();
        JavacTask task = (JavacTask) ToolProvider.getSystemJavaCompiler()
                .getTask(null, null, told, List.of("-proc:none"), null, List.of(file));
        try {
            CompilationUnitTree unit = task.parse().iterator().next();
            task.analyze();
            if (!told.getDiagnostics().isEmpty()) {
                return List.of("does not compile: " + told.getDiagnostics());
            }
            Language language = new Language(unit, Trees.instance(task));
            language.scan(unit, null);
            language.depths();
            return language.found;
        } catch (IOException e) {
            return List.of("cannot be read: " + e);
        }
    }

    private long lineOf(long position) {
        return unit.getLineMap().getLineNumber(position);
    }

    private void tell(int rule, Tree tree, String what) {
        long line = lineOf(trees.getSourcePositions().getStartPosition(unit, tree));
        found.add("rule " + rule + ", line " + line + ": " + what);
    }

    private Element elementOf(Tree tree) {
        return trees.getElement(new TreePath(getCurrentPath(), tree));
    }

    private TypeMirror typeOf(Tree tree) {
        return trees.getTypeMirror(new TreePath(getCurrentPath(), tree));
    }

    private <T extends Tree> T around(Class<T> type) {
        TreePath path = getCurrentPath().getParentPath();
        while (path != null && !type.isInstance(path.getLeaf())) {
            path = path.getParentPath();
        }
        return path == null ? null : type.cast(path.getLeaf());
    }

    @Override
    public Void scan(Tree tree, Void nothing) {
        if (tree != null && !KINDS.contains(tree.getKind())) {
            tell(10, tree, tree.getKind() + " has not been held against rules 2, 3, 6, 9 and 10");
        }
        return super.scan(tree, nothing);
    }

    @Override
    public Void visitCompilationUnit(CompilationUnitTree node, Void nothing) {
        if (node.getPackageName() != null || node.getTypeDecls().size() != 1) {
            tell(1, node, "one class without a package line is due");
        }
        return super.visitCompilationUnit(node, nothing);
    }

    @Override
    public Void visitClass(ClassTree node, Void nothing) {
        classes++;
        if (classes > MOST_CLASSES) {
            tell(11, node, "more than " + MOST_CLASSES + " classes");
        }
        Set<Modifier> modifiers = node.getModifiers().getFlags();
        boolean isFace = getCurrentPath().getParentPath().getLeaf() == unit;
        boolean isOpen = modifiers.contains(Modifier.PUBLIC) || modifiers.contains(Modifier.PROTECTED);
        if (isFace != isOpen || !isFace && !modifiers.contains(Modifier.STATIC)) {
            tell(1, node, "the class itself is public, one inside it is static, and neither public nor protected");
        }
        if (node.getExtendsClause() != null || !node.getImplementsClause().isEmpty()) {
            tell(2, node, "a class above has not been looked at");
        }
        int fields = 0;
        for (Tree member : node.getMembers()) {
            if (member instanceof VariableTree
                    && !((VariableTree) member).getModifiers().getFlags().contains(Modifier.STATIC)) {
                fields++;
            }
            if (member instanceof BlockTree) {
                tell(5, member, "an initialiser block");
            }
        }
        if (fields > MOST_FIELDS) {
            tell(11, node, "more than " + MOST_FIELDS + " fields");
        }
        return super.visitClass(node, nothing);
    }

    @Override
    public Void visitVariable(VariableTree node, Void nothing) {
        Element variable = trees.getElement(getCurrentPath());
        String type = String.valueOf(node.getType());
        if (!NUMBERS.contains(type) && !isOurs(trees.getTypeMirror(getCurrentPath()))) {
            tell(3, node, "a variable of type " + type);
        }
        if (variable.getKind() == ElementKind.FIELD && !variable.getModifiers().contains(Modifier.PRIVATE)) {
            tell(1, node, "a field that is not private");
        }
        if (variable.getModifiers().contains(Modifier.STATIC)
                && ((VariableElement) variable).getConstantValue() == null) {
            tell(5, node, "a static field that is no constant");
        }
        return super.visitVariable(node, nothing);
    }

    private boolean isOurs(TypeMirror type) {
        return type.toString().equals("SurveyHouse") || type.toString().startsWith("SurveyHouse.");
    }

    @Override
    public Void visitMethod(MethodTree node, Void nothing) {
        calls.putIfAbsent(trees.getElement(getCurrentPath()), new LinkedHashSet<>());
        if (node.getParameters().size() > MOST_PARAMETERS) {
            tell(11, node, node.getName() + " has more than " + MOST_PARAMETERS + " parameters");
        }
        long first = lineOf(trees.getSourcePositions().getStartPosition(unit, node));
        long last = lineOf(trees.getSourcePositions().getEndPosition(unit, node));
        if (last - first + 1 > MOST_LINES) {
            tell(11, node, node.getName() + " has more than " + MOST_LINES + " lines");
        }
        return super.visitMethod(node, nothing);
    }

    private void call(Tree node, Element called) {
        boolean isOwn = isOurs(called.getEnclosingElement().asType());
        String name = called.getEnclosingElement() + "."
                + (called.getKind() == ElementKind.CONSTRUCTOR ? called.getEnclosingElement().getSimpleName() + "()" : called);
        if (!isOwn && !LIBRARY.contains(name)) {
            tell(4, node, name + " is not among what the class calls of the library");
        }
        MethodTree from = around(MethodTree.class);
        if (isOwn && from != null) {
            Element caller = trees.getElement(trees.getPath(unit, from));
            calls.computeIfAbsent(caller, key -> new LinkedHashSet<>()).add(called);
        }
    }

    @Override
    public Void visitMethodInvocation(MethodInvocationTree node, Void nothing) {
        call(node, elementOf(node.getMethodSelect()));
        return super.visitMethodInvocation(node, nothing);
    }

    @Override
    public Void visitNewClass(NewClassTree node, Void nothing) {
        boolean isThrown = getCurrentPath().getParentPath().getLeaf() instanceof ThrowTree;
        if (!isThrown && around(MethodTree.class) != null) {
            tell(12, node, "an object made by a call");
        }
        if (!isThrown) {
            call(node, trees.getElement(getCurrentPath()));
        }
        if (node.getClassBody() != null) {
            tell(2, node, "an anonymous class has not been looked at");
        }
        return super.visitNewClass(node, nothing);
    }

    @Override
    public Void visitNewArray(NewArrayTree node, Void nothing) {
        if (around(MethodTree.class) != null) {
            tell(12, node, "an array made by a call");
        }
        for (ExpressionTree length : node.getDimensions()) {
            if (constantOf(length) <= 0) {
                tell(7, node, "a length that is no constant above 0");
            }
        }
        return super.visitNewArray(node, nothing);
    }

    @Override
    public Void visitThrow(ThrowTree node, Void nothing) {
        ExpressionTree thrown = node.getExpression();
        boolean isPlain = thrown instanceof NewClassTree && ((NewClassTree) thrown).getArguments().size() <= 1;
        if (isPlain) {
            NewClassTree made = (NewClassTree) thrown;
            isPlain = THROWN.contains(typeOf(thrown).toString())
                    && (made.getArguments().isEmpty() || made.getArguments().get(0) instanceof LiteralTree);
        }
        if (!isPlain) {
            tell(6, node, "not a new exception that the document names, with a written text");
        }
        MethodTree from = around(MethodTree.class);
        if (from == null || from.getReturnType() == null) {
            tell(6, node, "a throw in a constructor");
        }
        return super.visitThrow(node, nothing);
    }

    @Override
    public Void visitTypeCast(TypeCastTree node, Void nothing) {
        if (!typeOf(node.getType()).getKind().isPrimitive()) {
            tell(7, node, "a cast to a class");
        }
        return super.visitTypeCast(node, nothing);
    }

    @Override
    public Void visitArrayAccess(ArrayAccessTree node, Void nothing) {
        if (typeOf(node.getIndex()).getKind() != TypeKind.INT) {
            tell(7, node, "an index that is no int");
        }
        return super.visitArrayAccess(node, nothing);
    }

    @Override
    public Void visitBinary(BinaryTree node, Void nothing) {
        boolean isText = trees.getTypeMirror(getCurrentPath()).toString().equals("java.lang.String");
        if (isText) {
            tell(10, node, "texts joined by +");
        }
        boolean isSame = node.getKind() == Tree.Kind.EQUAL_TO || node.getKind() == Tree.Kind.NOT_EQUAL_TO;
        if (isSame && !typeOf(node.getLeftOperand()).getKind().isPrimitive()) {
            tell(6, node, "== between objects has not been looked at");
        }
        if (node.getKind() == Tree.Kind.DIVIDE || node.getKind() == Tree.Kind.REMAINDER) {
            divide(node, node.getRightOperand());
        }
        return super.visitBinary(node, nothing);
    }

    @Override
    public Void visitCompoundAssignment(CompoundAssignmentTree node, Void nothing) {
        if (node.getKind() == Tree.Kind.DIVIDE_ASSIGNMENT || node.getKind() == Tree.Kind.REMAINDER_ASSIGNMENT) {
            divide(node, node.getExpression());
        }
        if (typeOf(node.getVariable()).toString().equals("java.lang.String")) {
            tell(10, node, "texts joined by +");
        }
        return super.visitCompoundAssignment(node, nothing);
    }

    /** A divisor is a constant, or the method tests it against 0 (casts aside). */
    private void divide(Tree node, ExpressionTree divisor) {
        ExpressionTree plain = divisor;
        while (plain instanceof TypeCastTree || plain instanceof ParenthesizedTree) {
            plain = plain instanceof TypeCastTree ? ((TypeCastTree) plain).getExpression()
                    : ((ParenthesizedTree) plain).getExpression();
        }
        MethodTree method = around(MethodTree.class);
        String body = method == null ? "" : method.getBody().toString();
        boolean isTested = body.contains(plain + " > 0") || body.contains(plain + " <= 0");
        if (constantOf(plain) <= 0 && !isTested) {
            tell(7, node, "a divisor, " + divisor + ", that is not looked at");
        }
    }

    /** The number that it always is; 0 if that is not known. */
    private long constantOf(ExpressionTree tree) {
        if (tree instanceof LiteralTree && ((LiteralTree) tree).getValue() instanceof Number) {
            return ((Number) ((LiteralTree) tree).getValue()).longValue();
        }
        if (tree instanceof BinaryTree && tree.getKind() == Tree.Kind.MULTIPLY) {
            return constantOf(((BinaryTree) tree).getLeftOperand()) * constantOf(((BinaryTree) tree).getRightOperand());
        }
        Element named = elementOf(tree);
        Object value = named instanceof VariableElement ? ((VariableElement) named).getConstantValue() : null;
        return value instanceof Number ? ((Number) value).longValue() : 0;
    }

    @Override
    public Void visitSwitch(SwitchTree node, Void nothing) {
        if (!WHOLE.contains(typeOf(((ParenthesizedTree) node.getExpression()).getExpression()).getKind())) {
            tell(10, node, "a switch that is not on a number");
        }
        return super.visitSwitch(node, nothing);
    }

    @Override
    public Void visitEnhancedForLoop(EnhancedForLoopTree node, Void nothing) {
        if (typeOf(node.getExpression()).getKind() != TypeKind.ARRAY) {
            tell(12, node, "a for over something that is no array");
        }
        return super.visitEnhancedForLoop(node, nothing);
    }

    /** A counter that starts somewhere, goes up or down by 1 to a bound, and is not changed on the way. */
    @Override
    public Void visitForLoop(ForLoopTree node, Void nothing) {
        String name = node.getInitializer().size() == 1 && node.getInitializer().get(0) instanceof VariableTree
                ? ((VariableTree) node.getInitializer().get(0)).getName().toString() : "";
        String test = String.valueOf(node.getCondition());
        String update = String.valueOf(node.getUpdate());
        boolean goesUp = update.contains(name + "++") && (test.startsWith(name + " < ") || test.startsWith(name + " <= "));
        boolean goesDown = update.contains(name + "--") && test.startsWith(name + " >= ");
        if (name.isEmpty() || !goesUp && !goesDown || isChanged(node.getStatement(), name)) {
            tell(9, node, "a loop whose end cannot be seen: " + test);
        }
        return super.visitForLoop(node, nothing);
    }

    private boolean isChanged(Tree body, String name) {
        String text = body.toString();
        for (String change : new String[] {" = ", " += ", " -= ", "++", "--"}) {
            for (int at = text.indexOf(name + change); at >= 0; at = text.indexOf(name + change, at + 1)) {
                if (at == 0 || !Character.isJavaIdentifierPart(text.charAt(at - 1)) && text.charAt(at - 1) != '.') {
                    return true;
                }
            }
        }
        return false;
    }

    private void depths() {
        Map<Element, Integer> known = new HashMap<>();
        for (Element method : new ArrayList<>(calls.keySet())) {
            if (depthOf(method, known, new HashSet<>()) > MOST_DEPTH) {
                found.add("rule 11: calls go more than " + MOST_DEPTH + " deep from " + method);
            }
        }
    }

    private int depthOf(Element method, Map<Element, Integer> known, Set<Element> open) {
        if (known.containsKey(method)) {
            return known.get(method);
        }
        if (!open.add(method)) {
            found.add("rule 8: " + method + " comes to itself again");
            return 0;
        }
        int deepest = 0;
        for (Element called : calls.getOrDefault(method, Set.of())) {
            deepest = Math.max(deepest, depthOf(called, known, open));
        }
        open.remove(method);
        known.put(method, deepest + 1);
        return deepest + 1;
    }
}
