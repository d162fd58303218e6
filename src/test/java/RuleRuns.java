import com.sun.source.tree.ClassTree;
import com.sun.source.tree.CompilationUnitTree;
import com.sun.source.tree.MethodInvocationTree;
import com.sun.source.tree.MethodTree;
import com.sun.source.tree.NewClassTree;
import com.sun.source.tree.Tree;
import com.sun.source.util.JavacTask;
import com.sun.source.util.TreePath;
import com.sun.source.util.TreePathScanner;
import com.sun.source.util.Trees;
import java.io.IOException;
import java.nio.file.Path;
import java.util.ArrayList;
import java.util.HashSet;
import java.util.LinkedHashMap;
import java.util.LinkedHashSet;
import java.util.List;
import java.util.Map;
import java.util.Set;
import javax.lang.model.element.Element;
import javax.lang.model.element.ElementKind;
import javax.lang.model.element.ExecutableElement;
import javax.lang.model.element.Modifier;
import javax.lang.model.element.TypeElement;
import javax.tools.JavaCompiler;
import javax.tools.StandardJavaFileManager;
import javax.tools.ToolProvider;

/**
 * The rules of LANGUAGE.md that can be seen from the source of the class. Where the class needs less than a rule leaves
 * (no library, no exceptions, no recursion), that is what is looked at.
 */
public final class RuleRuns {
    private static final Path SOURCE = Path.of("src/main/java/FlowKernel.java");
    private static final int MOST_CLASSES = 12;
    private static final int MOST_FIELDS = 20;
    private static final int MOST_PARAMETERS = 7;
    private static final int MOST_LINES = 60;
    private static final int MOST_DEEP = 8;
    private static final Set<String> FACE = Set.of(
        "FlowKernel()", "int giver(int,boolean)", "int taker(int,boolean)", "boolean put(int,int)", "boolean end(int)",
        "boolean fail(int,int)", "boolean pulled(int,int)", "int read(int)", "boolean cancel(int,int)",
        "int write(int,int)", "boolean shut(int)", "boolean abort(int,int)", "boolean spoil(int,int)",
        "boolean settle(int,int)", "int pipe(int,int,int)", "int part(int)", "int step()", "int run()", "int jobs()",
        "int giverState(int)", "int giverRoom(int)", "int giverQueue(int)", "int takerState(int)", "int takerRoom(int)",
        "int takerQueue(int)", "int error(boolean,int)", "int events()", "int event(int,int)");
    private static final Map<Tree.Kind, Integer> RULED_OUT = Map.of(
        Tree.Kind.LAMBDA_EXPRESSION, 2, Tree.Kind.MEMBER_REFERENCE, 2, Tree.Kind.THROW, 6, Tree.Kind.TRY, 6,
        Tree.Kind.SYNCHRONIZED, 6, Tree.Kind.ASSERT, 6);
    private static final Set<Tree.Kind> MAKING = Set.of(Tree.Kind.NEW_CLASS, Tree.Kind.NEW_ARRAY);
    private static final Set<Tree.Kind> LOOPS = Set.of(
        Tree.Kind.FOR_LOOP, Tree.Kind.ENHANCED_FOR_LOOP, Tree.Kind.WHILE_LOOP, Tree.Kind.DO_WHILE_LOOP);
    private static int broken = 0;

    public static void main(String[] args) throws IOException {
        Source source = Source.read();
        face(source.classes);
        nestedClasses(source.classes);
        names(source.classes);
        fields(source.classes);
        sizes(source);
        depth(source.calls);
        System.out.println(broken == 0 ? "all rules are kept" : broken + " rules are broken");
        if (broken != 0) {
            System.exit(1);
        }
    }

    private static void dueRule(int rule, String what, boolean kept) {
        if (!kept) {
            broken++;
            System.out.println("rule " + rule + ": " + what);
        }
    }

    private static void face(List<TypeElement> classes) {
        TypeElement outer = classes.get(0);
        Set<String> seen = new HashSet<>();
        for (Element member : outer.getEnclosedElements()) {
            boolean isPrivate = member.getModifiers().contains(Modifier.PRIVATE);
            if (member instanceof ExecutableElement method && !isPrivate) {
                dueRule(1, "neither public nor private: " + told(method), isPublic(method));
                seen.add(told(method));
            } else if (member.getKind().isField()) {
                dueRule(1, "a field that can be seen: " + member, isPrivate);
            }
        }
        dueRule(1, "the face is " + seen, seen.equals(FACE));
        dueRule(1, "the class is public and final",
            isPublic(outer) && outer.getModifiers().contains(Modifier.FINAL));
    }

    private static boolean isPublic(Element member) {
        return member.getModifiers().contains(Modifier.PUBLIC);
    }

    private static String told(ExecutableElement method) {
        StringBuilder told = new StringBuilder();
        if (method.getKind() == ElementKind.CONSTRUCTOR) {
            told.append("FlowKernel(");
        } else {
            told.append(method.getReturnType()).append(' ').append(method.getSimpleName()).append('(');
        }
        for (int i = 0; i < method.getParameters().size(); i++) {
            told.append(i == 0 ? "" : ",").append(method.getParameters().get(i).asType());
        }
        return told.append(')').toString();
    }

    private static void nestedClasses(List<TypeElement> classes) {
        dueRule(11, "too many classes: " + classes.size(), classes.size() <= MOST_CLASSES);
        for (TypeElement nested : classes.subList(1, classes.size())) {
            Set<Modifier> modifiers = nested.getModifiers();
            dueRule(1, "not static: " + nested, modifiers.contains(Modifier.STATIC));
            dueRule(1, "can be seen: " + nested, !isPublic(nested) && !modifiers.contains(Modifier.PROTECTED));
            // Only so is the method that a call names the one that is called, as the depth below takes it.
            dueRule(8, "can have heirs: " + nested, modifiers.contains(Modifier.FINAL));
        }
    }

    private static void names(List<TypeElement> classes) {
        Set<String> ofFace = new HashSet<>();
        for (Element member : classes.get(0).getEnclosedElements()) {
            if (member.getKind() == ElementKind.METHOD && isPublic(member)) {
                ofFace.add(member.getSimpleName().toString());
            }
        }
        for (TypeElement type : classes) {
            for (Element member : type.getEnclosedElements()) {
                if (member.getKind() == ElementKind.METHOD && !isPublic(member)) {
                    dueRule(1, "a name of the face again: " + type + "." + member,
                        !ofFace.contains(member.getSimpleName().toString()));
                }
            }
        }
    }

    private static void fields(List<TypeElement> classes) {
        for (TypeElement type : classes) {
            int count = 0;
            for (Element member : type.getEnclosedElements()) {
                Set<Modifier> modifiers = member.getModifiers();
                if (member.getKind().isField() && modifiers.contains(Modifier.STATIC)) {
                    dueRule(5, "not a constant: " + type + "." + member,
                        modifiers.contains(Modifier.FINAL) && member.asType().getKind().isPrimitive());
                } else if (member.getKind().isField()) {
                    count++;
                }
            }
            dueRule(11, type + " has too many fields: " + count, count <= MOST_FIELDS);
        }
    }

    private static void sizes(Source source) {
        source.lines.forEach((method, lines) -> {
            dueRule(11, method + " is too long: " + lines, lines <= MOST_LINES);
            dueRule(11, method + " takes too many", method.getParameters().size() <= MOST_PARAMETERS);
        });
    }

    /** A method that comes back to itself has a way that is longer than there are methods. */
    private static void depth(Map<ExecutableElement, Set<ExecutableElement>> calls) {
        Map<ExecutableElement, Integer> ways = new LinkedHashMap<>();
        calls.keySet().forEach(method -> ways.put(method, 1));
        for (int round = 0; round < calls.size(); round++) {
            calls.forEach((method, called) -> called.forEach(
                next -> ways.merge(method, 1 + ways.getOrDefault(next, 1), Math::max)));
        }
        ways.forEach((method, way) -> dueRule(way > calls.size() ? 8 : 11,
            method.getEnclosingElement() + "." + method + " stands on a way of " + way + " calls", way <= MOST_DEEP));
    }

    /** What the rules look at: the classes, the outer one first, their methods' lines, and who calls whom. */
    private static final class Source extends TreePathScanner<Void, Void> {
        private final List<TypeElement> classes = new ArrayList<>();
        private final Map<ExecutableElement, Integer> lines = new LinkedHashMap<>();
        private final Map<ExecutableElement, Set<ExecutableElement>> calls = new LinkedHashMap<>();
        private final Trees trees;
        private final CompilationUnitTree unit;
        private ExecutableElement inside;
        private int loops = 0;

        private Source(Trees trees, CompilationUnitTree unit) {
            this.trees = trees;
            this.unit = unit;
        }

        static Source read() throws IOException {
            JavaCompiler compiler = ToolProvider.getSystemJavaCompiler();
            try (StandardJavaFileManager files = compiler.getStandardFileManager(null, null, null)) {
                JavacTask task = (JavacTask) compiler.getTask(null, files, null,
                    List.of("--release", "17", "-proc:none"), null, files.getJavaFileObjects(SOURCE));
                CompilationUnitTree unit = task.parse().iterator().next();
                task.analyze();
                Source source = new Source(Trees.instance(task), unit);
                dueRule(1, "a package or an import", unit.getPackageName() == null && unit.getImports().isEmpty());
                dueRule(1, "more than one class at the top", unit.getTypeDecls().size() == 1);
                source.scan(unit, null);
                return source;
            }
        }

        private long lineOf(long position) {
            return unit.getLineMap().getLineNumber(position);
        }

        private void dueNot(int rule, Tree tree) {
            long line = lineOf(trees.getSourcePositions().getStartPosition(unit, tree));
            dueRule(rule, tree.getKind() + " in line " + line, false);
        }

        private Element classAround() {
            TreePath path = getCurrentPath();
            while (path.getLeaf().getKind() != Tree.Kind.CLASS) {
                path = path.getParentPath();
            }
            return trees.getElement(path);
        }

        @Override
        public Void scan(Tree tree, Void none) {
            if (tree == null) {
                return null;
            }
            Integer rule = RULED_OUT.get(tree.getKind());
            if (rule != null) {
                dueNot(rule, tree);
            }
            if (loops > 0 && MAKING.contains(tree.getKind())) {
                dueNot(12, tree);
            }
            int around = loops;
            loops += LOOPS.contains(tree.getKind()) ? 1 : 0;
            super.scan(tree, none);
            loops = around;
            return null;
        }

        @Override
        public Void visitClass(ClassTree tree, Void none) {
            TypeElement type = (TypeElement) trees.getElement(getCurrentPath());
            classes.add(type);
            if (tree.getKind() != Tree.Kind.CLASS || inside != null) {
                dueNot(2, tree);
            }
            return super.visitClass(tree, none);
        }

        @Override
        public Void visitMethod(MethodTree tree, Void none) {
            inside = (ExecutableElement) trees.getElement(getCurrentPath());
            calls.computeIfAbsent(inside, method -> new LinkedHashSet<>());
            long first = lineOf(trees.getSourcePositions().getStartPosition(unit, tree));
            long last = lineOf(Math.max(0, trees.getSourcePositions().getEndPosition(unit, tree)));
            lines.put(inside, (int) Math.max(1, last - first + 1));
            super.visitMethod(tree, none);
            inside = null;
            return null;
        }

        @Override
        public Void visitMethodInvocation(MethodInvocationTree tree, Void none) {
            noteCall((ExecutableElement) trees.getElement(getCurrentPath()), tree);
            return super.visitMethodInvocation(tree, none);
        }

        @Override
        public Void visitNewClass(NewClassTree tree, Void none) {
            noteCall((ExecutableElement) trees.getElement(getCurrentPath()), tree);
            return super.visitNewClass(tree, none);
        }

        /** A call outside of methods makes a field's first value, so that each constructor makes it. */
        private void noteCall(ExecutableElement called, Tree tree) {
            TypeElement owner = (TypeElement) called.getEnclosingElement();
            if (!owner.toString().startsWith("FlowKernel")) {
                if (called.getKind() != ElementKind.CONSTRUCTOR || tree instanceof NewClassTree) {
                    dueNot(4, tree);
                }
                return;
            }
            if (inside != null) {
                calls.get(inside).add(called);
                return;
            }
            for (Element member : classAround().getEnclosedElements()) {
                if (member.getKind() == ElementKind.CONSTRUCTOR) {
                    calls.computeIfAbsent((ExecutableElement) member, method -> new LinkedHashSet<>()).add(called);
                }
            }
        }
    }
}
