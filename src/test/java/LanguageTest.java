import com.sun.source.tree.AssertTree;
import com.sun.source.tree.BinaryTree;
import com.sun.source.tree.BlockTree;
import com.sun.source.tree.ClassTree;
import com.sun.source.tree.CompilationUnitTree;
import com.sun.source.tree.CompoundAssignmentTree;
import com.sun.source.tree.ImportTree;
import com.sun.source.tree.InstanceOfTree;
import com.sun.source.tree.LambdaExpressionTree;
import com.sun.source.tree.LineMap;
import com.sun.source.tree.MemberReferenceTree;
import com.sun.source.tree.MethodInvocationTree;
import com.sun.source.tree.MethodTree;
import com.sun.source.tree.SynchronizedTree;
import com.sun.source.tree.ThrowTree;
import com.sun.source.tree.Tree;
import com.sun.source.tree.TryTree;
import com.sun.source.tree.VariableTree;
import com.sun.source.util.JavacTask;
import com.sun.source.util.TreePath;
import com.sun.source.util.TreePathScanner;
import com.sun.source.util.Trees;
import java.io.File;
import java.util.ArrayList;
import java.util.HashSet;
import java.util.List;
import java.util.Map;
import java.util.Set;
import java.util.TreeMap;
import java.util.TreeSet;
import javax.lang.model.element.Element;
import javax.lang.model.element.ElementKind;
import javax.lang.model.element.Modifier;
import javax.lang.model.type.TypeMirror;
import javax.tools.JavaCompiler;
import javax.tools.StandardJavaFileManager;
import javax.tools.ToolProvider;

/** The source of the class against the rules of LANGUAGE.md that can be seen from the source alone. */
final class LanguageTest extends TreePathScanner<Void, Void> {
    private static final String SOURCE = "src/main/java/ZoneSampler.java";
    private static final Set<String> FACE = Set.of(
        "public static final int INVALID_ARGUMENT", "public static final int NOT_POSSIBLE",
        "public static final int LIMIT_REACHED", "public static final int NOT_FOUND",
        "public static final int VOICES", "public static final int STEAL", "public static final int FADE",
        "public ZoneSampler()", "public zone(int,int,int,int)int", "public like(int,int,int,int)int",
        "public takeZone(int)int", "public hit(int,int)int", "public letGo(int)int", "public pedal()int",
        "public pass(int)int", "public silence()int", "public set(int,int)int", "public append(int)int",
        "public clear()int", "public fault(int)int", "public load()int", "public play()int",
        "public zoneOf(int,int)int", "public voice(int,int)int", "public answers(int,int)int",
        "public map(int,int)int", "public count(int)int", "public loudness()double",
        "public ifHit(int,int,int)int", "public silentIn()int", "public chord(int,int,int)int", "public undo()int",
        "public save()int", "public restore()int");
    private static final Set<String> IMPORTS = Set.of("java.util.ArrayList", "java.util.List", "java.util.Arrays");
    private static final Set<String> LIBRARY = Set.of(
        "java.lang.System.arraycopy", "java.lang.Math.min", "java.lang.Math.max", "java.util.ArrayList.add",
        "java.util.ArrayList.get", "java.util.ArrayList.remove", "java.util.ArrayList.size",
        "java.util.ArrayList.isEmpty", "java.util.ArrayList.clear", "java.util.ArrayList.set");

    private final Check check = new Check();
    private final Set<String> face = new TreeSet<>();
    private final Map<String, Set<String>> calls = new TreeMap<>();
    private final Set<String> methodsInside = new HashSet<>();
    private Trees trees;
    private CompilationUnitTree unit;
    private int classes;

    private void rule(int number, String what, boolean kept) {
        check.about("rule " + number);
        check.yes(what, kept);
    }

    @Override
    public Void visitImport(ImportTree t, Void v) {
        rule(4, t.toString().trim(), !t.isStatic() && IMPORTS.contains(t.getQualifiedIdentifier().toString()));
        return super.visitImport(t, v);
    }

    @Override
    public Void visitClass(ClassTree t, Void v) {
        classes++;
        Set<Modifier> flags = t.getModifiers().getFlags();
        boolean outer = getCurrentPath().getParentPath().getLeaf() == unit;
        rule(1, "flags of " + t.getSimpleName(), outer
            ? flags.equals(Set.of(Modifier.PUBLIC, Modifier.FINAL))
            : flags.contains(Modifier.STATIC) && !flags.contains(Modifier.PUBLIC) && !flags.contains(Modifier.PROTECTED));
        int fields = 0;
        for (Tree m : t.getMembers()) {
            if (m instanceof VariableTree f && !f.getModifiers().getFlags().contains(Modifier.STATIC)) {
                fields++;
            }
            rule(5, "no initialiser block", !(m instanceof BlockTree));
            if (outer) {
                faceMember(m);
            } else if (m instanceof MethodTree x) {
                methodsInside.add(x.getName().toString());
            }
        }
        rule(11, fields + " fields in " + t.getSimpleName(), fields <= 20);
        return super.visitClass(t, v);
    }

    private void faceMember(Tree m) {
        if (m instanceof MethodTree x) {
            boolean open = !x.getModifiers().getFlags().contains(Modifier.PRIVATE);
            StringBuilder sb = new StringBuilder();
            for (VariableTree p : x.getParameters()) {
                sb.append(sb.length() > 0 ? "," : "").append(p.getType());
            }
            String name = x.getReturnType() == null ? "ZoneSampler" : x.getName().toString();
            String text = "public " + name + "(" + sb + ")" + (x.getReturnType() == null ? "" : x.getReturnType());
            if (open) {
                face.add(text);
            } else {
                methodsInside.add(name);
            }
        } else if (m instanceof VariableTree f && !f.getModifiers().getFlags().contains(Modifier.PRIVATE)) {
            face.add("public static final int " + f.getName());
            rule(1, "constant " + f, f.getModifiers().getFlags().equals(
                Set.of(Modifier.PUBLIC, Modifier.STATIC, Modifier.FINAL)));
        }
    }

    @Override
    public Void visitVariable(VariableTree t, Void v) {
        Element e = trees.getElement(getCurrentPath());
        if (e != null && e.getKind() == ElementKind.FIELD && e.getModifiers().contains(Modifier.STATIC)) {
            boolean plain = e.asType().getKind().isPrimitive() || e.asType().toString().equals("java.lang.String");
            rule(5, "static " + t.getName(), e.getModifiers().contains(Modifier.FINAL) && plain);
        }
        return super.visitVariable(t, v);
    }

    private long line(long position) {
        LineMap map = unit.getLineMap();
        return map.getLineNumber(position);
    }

    @Override
    public Void visitMethod(MethodTree t, Void v) {
        long first = line(trees.getSourcePositions().getStartPosition(unit, t));
        long last = line(trees.getSourcePositions().getEndPosition(unit, t));
        rule(11, t.getName() + " has " + (last - first + 1) + " lines", last - first < 60);
        rule(11, t.getName() + " has " + t.getParameters().size() + " parameters", t.getParameters().size() <= 7);
        calls.computeIfAbsent(trees.getElement(getCurrentPath()).getEnclosingElement() + "." + t.getName(), k -> new TreeSet<>());
        return super.visitMethod(t, v);
    }

    private String enclosingMethod() {
        for (TreePath p = getCurrentPath(); p != null; p = p.getParentPath()) {
            if (p.getLeaf() instanceof MethodTree) {
                Element e = trees.getElement(p);
                return e.getEnclosingElement() + "." + e.getSimpleName();
            }
        }
        return "fields";
    }

    @Override
    public Void visitMethodInvocation(MethodInvocationTree t, Void v) {
        Element e = trees.getElement(getCurrentPath());
        String name = e == null ? "?" : e.getEnclosingElement().toString().replaceAll("<.*>", "") + "." + e.getSimpleName();
        if (name.startsWith("ZoneSampler")) {
            calls.computeIfAbsent(enclosingMethod(), k -> new TreeSet<>()).add(name);
        } else {
            rule(4, "call of " + name, LIBRARY.contains(name) || name.endsWith(".<init>"));
        }
        return super.visitMethodInvocation(t, v);
    }

    @Override
    public Void visitBinary(BinaryTree t, Void v) {
        if (t.getKind() == Tree.Kind.PLUS) {
            TypeMirror type = trees.getTypeMirror(getCurrentPath());
            rule(10, "joining by + in " + t, type != null && type.getKind().isPrimitive());
        }
        return super.visitBinary(t, v);
    }

    @Override
    public Void visitCompoundAssignment(CompoundAssignmentTree t, Void v) {
        TypeMirror type = trees.getTypeMirror(getCurrentPath());
        rule(10, "joining by += in " + t, type != null && type.getKind().isPrimitive());
        return super.visitCompoundAssignment(t, v);
    }

    @Override
    public Void visitLambdaExpression(LambdaExpressionTree t, Void v) {
        rule(2, "no lambda", false);
        return super.visitLambdaExpression(t, v);
    }

    @Override
    public Void visitMemberReference(MemberReferenceTree t, Void v) {
        rule(2, "no method reference", false);
        return super.visitMemberReference(t, v);
    }

    @Override
    public Void visitAssert(AssertTree t, Void v) {
        rule(6, "no assert", false);
        return super.visitAssert(t, v);
    }

    @Override
    public Void visitSynchronized(SynchronizedTree t, Void v) {
        rule(6, "no synchronized", false);
        return super.visitSynchronized(t, v);
    }

    @Override
    public Void visitThrow(ThrowTree t, Void v) {
        rule(6, "the document names no exception", false);
        return super.visitThrow(t, v);
    }

    @Override
    public Void visitTry(TryTree t, Void v) {
        rule(6, "nothing throws, so nothing is caught", false);
        return super.visitTry(t, v);
    }

    @Override
    public Void visitInstanceOf(InstanceOfTree t, Void v) {
        rule(6, "no instanceof is needed", false);
        return super.visitInstanceOf(t, v);
    }

    /** How many calls stand open at once below a method; 1000 if it comes back to itself. */
    private int depth(String method, Set<String> open) {
        if (!open.add(method)) {
            return 1000;
        }
        int deepest = 0;
        for (String called : calls.getOrDefault(method, Set.of())) {
            deepest = Math.max(deepest, depth(called, open));
        }
        open.remove(method);
        return 1 + deepest;
    }

    private void run() throws Exception {
        JavaCompiler compiler = ToolProvider.getSystemJavaCompiler();
        try (StandardJavaFileManager files = compiler.getStandardFileManager(null, null, null)) {
            List<String> options = new ArrayList<>(List.of("-proc:none", "-Xlint:all", "-Werror"));
            JavacTask task = (JavacTask) compiler.getTask(
                null, files, null, options, null, files.getJavaFileObjects(new File(SOURCE)));
            trees = Trees.instance(task);
            unit = task.parse().iterator().next();
            task.analyze();
            scan(unit, null);
        }
        rule(1, "no package", unit.getPackageName() == null);
        rule(1, "face " + face, face.equals(FACE));
        for (String name : methodsInside) {
            rule(1, "name of " + name, FACE.stream().noneMatch(f -> f.startsWith("public " + name + "(")));
        }
        rule(11, classes + " classes", classes <= 12);
        for (String method : calls.keySet()) {
            int depth = depth(method, new HashSet<>());
            rule(11, method + " goes " + depth + " deep", depth <= 8);
        }
        check.end();
    }

    public static void main(String[] args) throws Exception {
        new LanguageTest().run();
    }
}
