import com.sun.source.tree.ClassTree;
import com.sun.source.tree.CompilationUnitTree;
import com.sun.source.tree.MethodInvocationTree;
import com.sun.source.tree.MethodTree;
import com.sun.source.tree.NewClassTree;
import com.sun.source.tree.Tree;
import com.sun.source.tree.VariableTree;
import com.sun.source.util.JavacTask;
import com.sun.source.util.TreePathScanner;
import com.sun.source.util.Trees;
import java.nio.file.Path;
import java.util.ArrayList;
import java.util.HashMap;
import java.util.LinkedHashSet;
import java.util.List;
import java.util.Map;
import java.util.Set;
import javax.lang.model.element.Element;
import javax.lang.model.element.ElementKind;
import javax.lang.model.element.ExecutableElement;
import javax.lang.model.element.Modifier;
import javax.tools.JavaCompiler;
import javax.tools.StandardJavaFileManager;
import javax.tools.ToolProvider;

/** Rules 1, 8, 11 of LANGUAGE.md by the compiler's own tree: who calls whom, how deep, and what a class holds. */
public final class DepthTest {
    private static final int DEEPEST = 8;
    private static final int MOST_FIELDS = 20;

    /** What each method calls; a method of the library calls nothing. */
    private final Map<Element, Set<Element>> calls = new HashMap<>();
    private final Map<Element, Integer> depths = new HashMap<>();

    public static void main(String[] args) throws Exception {
        new DepthTest().look(Path.of(System.getProperty("root", "."), "src/main/java/EggGarden.java"));
        Check.end();
    }

    private void look(Path source) throws Exception {
        JavaCompiler compiler = ToolProvider.getSystemJavaCompiler();
        try (StandardJavaFileManager files = compiler.getStandardFileManager(null, null, null)) {
            JavacTask task = (JavacTask) compiler.getTask(null, files, null, List.of("-proc:none"), null,
                    files.getJavaFileObjects(source));
            List<CompilationUnitTree> units = new ArrayList<>();
            task.parse().forEach(units::add);
            task.analyze();
            Trees trees = Trees.instance(task);
            units.forEach(unit -> new Scan(trees).scan(unit, null));
        }
        Check.due("there are methods", calls.size() > 100, true);
        for (Element method : List.copyOf(calls.keySet())) {
            Check.due(method + " of " + method.getEnclosingElement() + " goes " + depth(method, 0) + " deep",
                    depth(method, 0) <= DEEPEST, true);
        }
    }

    /** How many calls stand open at once below a method, itself among them; one that calls itself is far too deep. */
    private int depth(Element method, int above) {
        if (above > 100) {
            return 1000;
        }
        Integer told = depths.get(method);
        if (told != null) {
            return told;
        }
        int deepest = 0;
        for (Element called : calls.getOrDefault(method, Set.of())) {
            deepest = Math.max(deepest, depth(called, above + 1));
        }
        depths.put(method, deepest + 1);
        return deepest + 1;
    }

    private final class Scan extends TreePathScanner<Void, Void> {
        private final Trees trees;
        private Element inside;

        Scan(Trees trees) {
            this.trees = trees;
        }

        @Override
        public Void visitClass(ClassTree tree, Void nothing) {
            Element type = trees.getElement(getCurrentPath());
            int fields = 0;
            for (Tree member : tree.getMembers()) {
                if (member instanceof VariableTree field
                        && !field.getModifiers().getFlags().contains(Modifier.STATIC)) {
                    fields++;
                }
            }
            Check.due(type + " has " + fields + " fields", fields <= MOST_FIELDS, true);
            for (Element member : type.getEnclosedElements()) {
                lookAtMember(type, member);
            }
            Element outer = inside;
            // Fields are set in the constructor: what they call, it calls.
            inside = constructorOf(type);
            super.visitClass(tree, nothing);
            inside = outer;
            return nothing;
        }

        private static Element constructorOf(Element type) {
            for (Element member : type.getEnclosedElements()) {
                if (member.getKind() == ElementKind.CONSTRUCTOR) {
                    return member;
                }
            }
            return type;
        }

        private void lookAtMember(Element type, Element member) {
            Set<Modifier> flags = member.getModifiers();
            if (member.getKind() == ElementKind.FIELD && flags.contains(Modifier.STATIC)) {
                Check.due(member + " of " + type + " is final", flags.contains(Modifier.FINAL), true);
            }
            if (!type.getSimpleName().contentEquals("EggGarden")) {
                return;
            }
            boolean hidden = flags.contains(Modifier.PRIVATE);
            if (member.getKind().isClass()) {
                Check.due(member + " is static", flags.contains(Modifier.STATIC), true);
            } else if (!hidden) {
                Check.due(member + " is of the face", flags.contains(Modifier.PUBLIC), true);
            }
        }

        @Override
        public Void visitMethod(MethodTree tree, Void nothing) {
            Element outer = inside;
            inside = trees.getElement(getCurrentPath());
            calls.computeIfAbsent(inside, e -> new LinkedHashSet<>());
            Check.due(inside + " takes at most seven", ((ExecutableElement) inside).getParameters().size() <= 7, true);
            super.visitMethod(tree, nothing);
            inside = outer;
            return nothing;
        }

        @Override
        public Void visitMethodInvocation(MethodInvocationTree tree, Void nothing) {
            note(trees.getElement(getCurrentPath()));
            return super.visitMethodInvocation(tree, nothing);
        }

        @Override
        public Void visitNewClass(NewClassTree tree, Void nothing) {
            note(trees.getElement(getCurrentPath()));
            return super.visitNewClass(tree, nothing);
        }

        private void note(Element called) {
            // The call of Object's constructor, which each constructor makes, is none of the source's own.
            if (!called.getEnclosingElement().toString().equals("java.lang.Object")) {
                calls.computeIfAbsent(inside, e -> new LinkedHashSet<>()).add(called);
            }
        }
    }
}
