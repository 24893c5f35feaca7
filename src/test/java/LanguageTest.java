import com.sun.source.tree.AssertTree;
import com.sun.source.tree.BinaryTree;
import com.sun.source.tree.BlockTree;
import com.sun.source.tree.ClassTree;
import com.sun.source.tree.CompilationUnitTree;
import com.sun.source.tree.CompoundAssignmentTree;
import com.sun.source.tree.DoWhileLoopTree;
import com.sun.source.tree.EnhancedForLoopTree;
import com.sun.source.tree.ExpressionTree;
import com.sun.source.tree.ForLoopTree;
import com.sun.source.tree.LambdaExpressionTree;
import com.sun.source.tree.MemberReferenceTree;
import com.sun.source.tree.MethodInvocationTree;
import com.sun.source.tree.MethodTree;
import com.sun.source.tree.NewArrayTree;
import com.sun.source.tree.NewClassTree;
import com.sun.source.tree.SynchronizedTree;
import com.sun.source.tree.ThrowTree;
import com.sun.source.tree.Tree;
import com.sun.source.tree.TryTree;
import com.sun.source.tree.TypeCastTree;
import com.sun.source.tree.VariableTree;
import com.sun.source.tree.WhileLoopTree;
import com.sun.source.util.JavacTask;
import com.sun.source.util.TreePathScanner;
import com.sun.source.util.Trees;
import java.io.IOException;
import java.nio.charset.StandardCharsets;
import java.nio.file.Files;
import java.nio.file.Path;
import java.util.ArrayList;
import java.util.HashSet;
import java.util.List;
import java.util.Map;
import java.util.Set;
import java.util.TreeMap;
import java.util.TreeSet;
import java.util.regex.Matcher;
import java.util.regex.Pattern;
import javax.lang.model.element.Element;
import javax.lang.model.element.ElementKind;
import javax.lang.model.element.ExecutableElement;
import javax.lang.model.element.Modifier;
import javax.lang.model.type.TypeKind;
import javax.lang.model.type.TypeMirror;
import javax.tools.JavaCompiler;
import javax.tools.StandardJavaFileManager;
import javax.tools.ToolProvider;

/** The rules of LANGUAGE.md, by their numbers, on the class as the compiler reads it; rule 1 is FaceTest's, but for what a tree alone shows. */
public final class LanguageTest {
    private static final String SOURCE = "src/main/java/CaptiveCar.java";
    private static final Set<String> PLAIN = Set.of("int", "long", "short", "byte", "char", "boolean", "double", "float");
    /** Rule 4, as far as the class may come to need it: text, lists, numbers, rows. */
    private static final Pattern LIBRARY = Pattern.compile(
        "java\\.lang\\.String\\.(length|charAt|isEmpty|equals|indexOf|substring|toCharArray)"
        + "|java\\.lang\\.StringBuilder\\.(append|charAt|setCharAt|setLength|deleteCharAt|reverse|length|toString)"
        + "|java\\.util\\.(Array)?List\\.(add|get|set|remove|size|isEmpty|clear)"
        + "|java\\.lang\\.(Integer|Long|Math)\\.(?!\\w*Exact$)(compare|max|min|abs|bitCount|floorDiv|floorMod|signum|numberOf\\w+)"
        + "|java\\.lang\\.System\\.arraycopy|java\\.util\\.Arrays\\.(copyOf|copyOfRange|fill)");
    private static int wrong = 0;
    private static int looked = 0;

    private static void claim(boolean so, int rule, String what) {
        looked++;
        if (!so) {
            wrong++;
            System.out.println("rule " + rule + ": " + what);
        }
    }

    /** Looks at each node once, and keeps who calls whom for the rules on depth. */
    private static final class Look extends TreePathScanner<Void, Void> {
        final Trees trees;
        final CompilationUnitTree unit;
        final Map<String, Set<String>> calls = new TreeMap<>();
        final Set<String> publicNames = new HashSet<>();
        final Set<String> privateNames = new HashSet<>();
        int classes = 0;
        String method = "";
        boolean making = false;

        Look(Trees trees, CompilationUnitTree unit) {
            this.trees = trees;
            this.unit = unit;
        }

        Element here() {
            return trees.getElement(getCurrentPath());
        }

        static boolean isOwn(Element e) {
            Element outer = e;
            while (outer.getEnclosingElement() != null && outer.getEnclosingElement().getKind() != ElementKind.PACKAGE) {
                outer = outer.getEnclosingElement();
            }
            return outer.getSimpleName().contentEquals("CaptiveCar");
        }

        static String nameOf(Element e) {
            return e.getEnclosingElement() + "." + e;
        }

        @Override public Void visitClass(ClassTree c, Void v) {
            classes++;
            Tree above = getCurrentPath().getParentPath().getLeaf();
            Element e = here();
            claim(above == unit || above instanceof ClassTree, 2, c.getSimpleName() + " is a local class");
            claim(above == unit || e.getModifiers().contains(Modifier.STATIC), 2, c.getSimpleName() + " is not static");
            claim(above == unit || !e.getModifiers().contains(Modifier.PUBLIC) && !e.getModifiers().contains(Modifier.PROTECTED), 1,
                c.getSimpleName() + " is visible outside");
            int fields = 0;
            for (Tree member : c.getMembers()) {
                boolean field = member instanceof VariableTree;
                fields += field && !((VariableTree) member).getModifiers().getFlags().contains(Modifier.STATIC) ? 1 : 0;
                claim(!(member instanceof BlockTree) || !((BlockTree) member).isStatic(), 5, c.getSimpleName() + " has a static block");
            }
            claim(fields <= 20, 11, c.getSimpleName() + " has " + fields + " fields");
            return super.visitClass(c, v);
        }

        @Override public Void visitVariable(VariableTree t, Void v) {
            Element e = here();
            type(e.asType(), t.getName().toString());
            if (e.getModifiers().contains(Modifier.STATIC)) {
                claim(e.getModifiers().contains(Modifier.FINAL), 5, t.getName() + " is static and not final");
                claim(Set.of("int", "long", "boolean", "char", "java.lang.String", "int[]", "long[]", "char[]", "byte[]").contains(e.asType().toString()),
                    5, t.getName() + " is a static field of " + e.asType());
            }
            return super.visitVariable(t, v);
        }

        static void type(TypeMirror t, String of) {
            String name = t.toString().replace("CaptiveCar.", "");
            String bare = name.replaceAll("\\[\\]", "");
            int dimensions = (name.length() - bare.length()) / 2;
            boolean own = t.toString().startsWith("CaptiveCar");
            boolean library = Pattern.matches("java\\.lang\\.(String|StringBuilder)|java\\.util\\.(Array)?List<[\\w.]+>", bare);
            claim(PLAIN.contains(bare) ? dimensions <= 2 : own ? dimensions <= 1 : library && dimensions == 0, 3, of + " is of " + t);
        }

        @Override public Void visitMethod(MethodTree t, Void v) {
            ExecutableElement e = (ExecutableElement) here();
            String outer = method;
            boolean outerMaking = making;
            method = nameOf(e);
            making = e.getKind() == ElementKind.CONSTRUCTOR;
            calls.computeIfAbsent(method, k -> new TreeSet<>());
            (e.getModifiers().contains(Modifier.PUBLIC) ? publicNames : privateNames).add(e.getSimpleName().toString());
            if (e.getReturnType().getKind() != TypeKind.VOID) {
                type(e.getReturnType(), method);
            }
            claim(t.getParameters().size() <= 7, 11, method + " takes " + t.getParameters().size());
            claim(t.getThrows().isEmpty(), 6, method + " throws");
            claim(!Set.of("equals", "hashCode", "toString").contains(t.getName().toString()), 6, method + " is of Object's");
            claim(lines(t) <= 60, 11, method + " has " + lines(t) + " lines");
            super.visitMethod(t, v);
            method = outer;
            making = outerMaking;
            return null;
        }

        long lines(Tree t) {
            long from = trees.getSourcePositions().getStartPosition(unit, t);
            long to = trees.getSourcePositions().getEndPosition(unit, t);
            return from < 0 || to < 0 ? 0 : unit.getLineMap().getLineNumber(to) - unit.getLineMap().getLineNumber(from) + 1;
        }

        @Override public Void visitMethodInvocation(MethodInvocationTree t, Void v) {
            Element e = here();
            boolean constructor = e.getKind() == ElementKind.CONSTRUCTOR;
            if (isOwn(e)) {
                calls.computeIfAbsent(method, k -> new TreeSet<>()).add(nameOf(e));
                claim(!making || constructor, 12, method + " calls " + e + " while it makes its object");
            } else if (!constructor) {
                String name = e.getEnclosingElement() + "." + e.getSimpleName();
                claim(LIBRARY.matcher(name).matches(), 4, method + " uses " + name);
            }
            return super.visitMethodInvocation(t, v);
        }

        /** Stricter than rule 12: all that is made is made in constructors, so no number of calls fills the room. */
        @Override public Void visitNewClass(NewClassTree t, Void v) {
            claim(t.getClassBody() == null, 2, method + " has an anonymous class");
            claim(making, 12, method + " makes " + t);
            return super.visitNewClass(t, v);
        }

        @Override public Void visitNewArray(NewArrayTree t, Void v) {
            // Outside of all methods it is a constant written out, of which rule 5 speaks.
            claim(making || method.isEmpty(), 12, method + " makes " + t);
            return super.visitNewArray(t, v);
        }

        @Override public Void visitTypeCast(TypeCastTree t, Void v) {
            claim(PLAIN.contains(t.getType().toString()), 6, method + " casts to " + t.getType());
            return super.visitTypeCast(t, v);
        }

        @Override public Void visitBinary(BinaryTree t, Void v) {
            claim(t.getKind() != Tree.Kind.PLUS || !isText(t), 10, method + " joins texts by +: " + t);
            boolean divides = t.getKind() == Tree.Kind.DIVIDE || t.getKind() == Tree.Kind.REMAINDER;
            claim(!divides || isTestedDivisor(t.getRightOperand().toString()), 7, method + " divides by " + t.getRightOperand());
            return super.visitBinary(t, v);
        }

        @Override public Void visitCompoundAssignment(CompoundAssignmentTree t, Void v) {
            claim(t.getKind() != Tree.Kind.DIVIDE_ASSIGNMENT && t.getKind() != Tree.Kind.REMAINDER_ASSIGNMENT, 7, method + " divides by " + t);
            return super.visitCompoundAssignment(t, v);
        }

        boolean isText(Tree t) {
            TypeMirror type = trees.getTypeMirror(new com.sun.source.util.TreePath(getCurrentPath(), t));
            return type != null && type.toString().equals("java.lang.String");
        }

        /** A constant, or a name that the method itself tests against its least ahead of the division. */
        boolean isTestedDivisor(String divisor) {
            if (divisor.matches("[1-9]\\d*|YEAR|UNDO_MOST")) {
                return true;
            }
            Tree of = getCurrentPath().getLeaf();
            for (Tree t : getCurrentPath()) {
                of = t instanceof MethodTree ? t : of;
            }
            String body = of.toString();
            String name = Pattern.quote(divisor);
            return Pattern.compile("isOutside\\(" + name + ", [1-9]|" + name + " < 1\\b|int " + name + " = \\w+ == 0 \\? YEAR : 1;").matcher(body).find();
        }

        @Override public Void visitForLoop(ForLoopTree t, Void v) {
            claim(t.getCondition() != null && t.getInitializer().size() == 1 && t.getUpdate().size() == 1, 9, method + ": a loop without a counter");
            if (t.getCondition() != null && t.getInitializer().size() == 1 && t.getInitializer().get(0) instanceof VariableTree) {
                String counter = ((VariableTree) t.getInitializer().get(0)).getName().toString();
                claim(t.getCondition().toString().matches("(?s).*\\b" + counter + " (<|<=|>=) .*"), 9, method + ": " + t.getCondition());
                String update = t.getUpdate().isEmpty() ? "" : t.getUpdate().get(0).toString();
                claim(update.matches(counter + "(\\+\\+|--);?"), 9, method + " goes on by " + update);
                claim(!Pattern.compile("\\b" + counter + " (=|\\+=|-=) |\\b" + counter + "(\\+\\+|--)").matcher(t.getStatement().toString()).find(), 9,
                    method + " moves its counter within the loop");
            }
            return super.visitForLoop(t, v);
        }

        /** Its condition has an upper bound for a name that the body makes greater in each round. */
        @Override public Void visitWhileLoop(WhileLoopTree t, Void v) {
            Matcher bound = Pattern.compile("(\\w+) < \\w+ &&").matcher(t.getCondition().toString());
            boolean found = bound.find();
            claim(found && Pattern.compile("(?m)^    " + (found ? bound.group(1) : "") + "\\+\\+;$").matcher(t.getStatement().toString()).find(), 9,
                method + ": while " + t.getCondition());
            return super.visitWhileLoop(t, v);
        }

        @Override public Void visitDoWhileLoop(DoWhileLoopTree t, Void v) {
            claim(false, 9, method + ": do while " + t.getCondition());
            return super.visitDoWhileLoop(t, v);
        }

        @Override public Void visitEnhancedForLoop(EnhancedForLoopTree t, Void v) {
            ExpressionTree over = t.getExpression();
            claim(over.toString().matches("\\w+(\\.\\w+)*"), 9, method + " goes over " + over);
            return super.visitEnhancedForLoop(t, v);
        }

        @Override public Void visitThrow(ThrowTree t, Void v) {
            claim(false, 6, method + ": throw");
            return super.visitThrow(t, v);
        }

        @Override public Void visitTry(TryTree t, Void v) {
            claim(false, 6, method + ": try");
            return super.visitTry(t, v);
        }

        @Override public Void visitSynchronized(SynchronizedTree t, Void v) {
            claim(false, 6, method + ": synchronized");
            return super.visitSynchronized(t, v);
        }

        @Override public Void visitAssert(AssertTree t, Void v) {
            claim(false, 6, method + ": assert");
            return super.visitAssert(t, v);
        }

        @Override public Void visitLambdaExpression(LambdaExpressionTree t, Void v) {
            claim(false, 2, method + ": a lambda");
            return super.visitLambdaExpression(t, v);
        }

        @Override public Void visitMemberReference(MemberReferenceTree t, Void v) {
            claim(false, 2, method + ": a method reference");
            return super.visitMemberReference(t, v);
        }
    }

    /** How many calls stand open at once from a method on; one that stands open already would be a recursion. */
    private static int depth(Map<String, Set<String>> calls, String method, List<String> open) {
        if (open.contains(method)) {
            claim(false, 8, "a recursion: " + open + " -> " + method);
            return 0;
        }
        open.add(method);
        int deepest = 0;
        for (String next : calls.getOrDefault(method, Set.of())) {
            deepest = Math.max(deepest, depth(calls, next, open));
        }
        open.remove(open.size() - 1);
        return deepest + 1;
    }

    private static void wholeFile() throws IOException {
        String text = Files.readString(Path.of(SOURCE), StandardCharsets.ISO_8859_1);
        claim(text.chars().allMatch(c -> c == '\n' || c >= 32 && c < 127), 4, "a sign that is not of 1 to 127");
        String code = text.replaceAll("(?s)/\\*.*?\\*/", "").replaceAll("//[^\n]*", "");
        Matcher m = Pattern.compile("\\b(import|package|native|volatile|transient|Object|double|float)\\b").matcher(code);
        while (m.find()) {
            claim(false, 3, "the program does without " + m.group());
        }
    }

    private static Look read() throws IOException {
        JavaCompiler compiler = ToolProvider.getSystemJavaCompiler();
        try (StandardJavaFileManager files = compiler.getStandardFileManager(null, null, StandardCharsets.UTF_8)) {
            JavacTask task = (JavacTask) compiler.getTask(null, files, null, List.of("-proc:none", "--release", "17"), null, files.getJavaFileObjects(SOURCE));
            CompilationUnitTree unit = task.parse().iterator().next();
            task.analyze();
            Look look = new Look(Trees.instance(task), unit);
            look.scan(unit, null);
            return look;
        }
    }

    public static void main(String[] args) throws IOException {
        wholeFile();
        Look look = read();
        claim(look.classes <= 12 && look.classes > 1, 11, look.classes + " classes");
        claim(look.calls.size() > 80, 11, "only " + look.calls.size() + " methods were found");
        for (String name : look.privateNames) {
            claim(name.equals("<init>") || !look.publicNames.contains(name), 1, "a private method is named " + name);
        }
        for (String method : look.calls.keySet()) {
            int deep = depth(look.calls, method, new ArrayList<>());
            claim(deep <= 8, 11, method + " goes " + deep + " calls deep");
        }
        System.out.println(looked + " looks at rules, " + wrong + " wrong");
        if (wrong != 0) {
            System.exit(1);
        }
    }
}
