import com.sun.source.tree.AssertTree;
import com.sun.source.tree.BlockTree;
import com.sun.source.tree.ClassTree;
import com.sun.source.tree.CompilationUnitTree;
import com.sun.source.tree.LambdaExpressionTree;
import com.sun.source.tree.MemberReferenceTree;
import com.sun.source.tree.MethodInvocationTree;
import com.sun.source.tree.MethodTree;
import com.sun.source.tree.NewArrayTree;
import com.sun.source.tree.NewClassTree;
import com.sun.source.tree.SynchronizedTree;
import com.sun.source.tree.ThrowTree;
import com.sun.source.tree.Tree;
import com.sun.source.tree.TryTree;
import com.sun.source.tree.VariableTree;
import com.sun.source.util.JavacTask;
import com.sun.source.util.TreePathScanner;
import com.sun.source.util.Trees;
import java.io.File;
import java.lang.reflect.Array;
import java.lang.reflect.Constructor;
import java.lang.reflect.Field;
import java.lang.reflect.Member;
import java.lang.reflect.Method;
import java.lang.reflect.Modifier;
import java.util.ArrayList;
import java.util.Collections;
import java.util.HashMap;
import java.util.HashSet;
import java.util.IdentityHashMap;
import java.util.List;
import java.util.Map;
import java.util.Set;
import java.util.TreeSet;
import javax.lang.model.element.Element;
import javax.lang.model.element.ElementKind;
import javax.lang.model.element.ExecutableElement;
import javax.tools.JavaCompiler;
import javax.tools.StandardJavaFileManager;
import javax.tools.ToolProvider;

/** What LANGUAGE.md asks of the class's file, as far as a program can see it: run from the project's folder. */
public final class LanguageTest {
    private static final String FILE = "src/main/java/DinnerPleas.java";
    private static final Checks c = new Checks();

    private static final Set<String> LIBRARY = Set.of(
            "java.lang.Math.max", "java.lang.Math.min", "java.lang.Math.abs", "java.lang.Integer.bitCount",
            "java.lang.System.arraycopy", "java.lang.String.length", "java.lang.String.charAt");

    private static final Set<String> FACE = Set.of(
            "court(int)", "dish(int,int,int,int,int)", "book(int,int,int)", "lean(int)", "type(int)", "clear()", "read()",
            "serve(int,int)", "undo()", "of(int,int)", "course(int,int)", "leans()", "verdict()", "menu(int)", "wipe()",
            "comes(int)", "did(int,int)", "play(int,int)", "first(int,int)", "pardon(int,int)", "cancel(int)",
            "undoes(int)", "reading(int,int)", "forget()", "before(int)", "tells(int)", "sure(int)",
            "burnt(int,int,int)", "dinners(int,int)", "part(int)", "image(int)", "from(int)", "status(int)",
            "count(int)", "digest()");

    // Of one object; the room of a run holds some 600,000 objects and 7.3 million fields and elements.
    private static final int MOST_OBJECTS = 100, MOST_ELEMENTS = 2000;

    public static void main(String[] args) throws Exception {
        face();
        room();
        JavaCompiler compiler = ToolProvider.getSystemJavaCompiler();
        try (StandardJavaFileManager files = compiler.getStandardFileManager(null, null, null)) {
            JavacTask task = (JavacTask) compiler.getTask(null, files, null, List.of("-proc:none"), null,
                    files.getJavaFileObjects(new File(FILE)));
            for (CompilationUnitTree unit : task.parse()) {
                task.analyze();
                Rules rules = new Rules(unit, Trees.instance(task));
                rules.scan(unit, null);
                rules.close();
            }
        }
        c.end();
    }

    private static void face() {
        c.begin("rule 1");
        Set<String> shown = new TreeSet<>();
        for (Method m : DinnerPleas.class.getDeclaredMethods()) {
            String types = String.join(",", List.of(m.getParameterTypes()).stream().map(Class::getName).toList());
            if (!Modifier.isPrivate(m.getModifiers())) {
                shown.add(m.getName() + "(" + types + ")");
                boolean isLong = m.getName().equals("part") || m.getName().equals("digest");
                c.holds(m + " is public and answers as told", Modifier.isPublic(m.getModifiers())
                        && m.getReturnType() == (isLong ? long.class : int.class) && !Modifier.isStatic(m.getModifiers()));
            } else {
                bearsNoPublicName(m);
            }
        }
        for (Class<?> inner : DinnerPleas.class.getDeclaredClasses()) {
            for (Method m : inner.getDeclaredMethods()) {
                bearsNoPublicName(m);
            }
        }
        c.holds("the methods shown are the document's: " + shown, shown.equals(new TreeSet<>(FACE)));
        Set<String> fields = new TreeSet<>();
        for (Field f : DinnerPleas.class.getDeclaredFields()) {
            if (!Modifier.isPrivate(f.getModifiers())) {
                fields.add(f.getName());
            }
        }
        c.holds("the constants shown: " + fields, fields.equals(Set.of("NONE", "BAD", "NO", "FULL")));
        Constructor<?>[] made = DinnerPleas.class.getDeclaredConstructors();
        c.holds("one public constructor", made.length == 1 && isPublic(made[0]) && made[0].getParameterCount() == 0);
        c.holds("a final class", Modifier.isFinal(DinnerPleas.class.getModifiers()));
    }

    private static void bearsNoPublicName(Method m) {
        c.holds(m + " bears no public name", FACE.stream().noneMatch(f -> f.startsWith(m.getName() + "(")));
    }

    /** What one object takes of the room, with all that it holds; as no call makes anything, it stays so. */
    private static void room() throws IllegalAccessException {
        c.begin("rule 12");
        Set<Object> seen = Collections.newSetFromMap(new IdentityHashMap<>());
        int elements = gather(new DinnerPleas(), seen);
        c.holds(seen.size() + " objects", seen.size() <= MOST_OBJECTS);
        c.holds(elements + " fields and elements", elements <= MOST_ELEMENTS);
    }

    private static int gather(Object o, Set<Object> seen) throws IllegalAccessException {
        if (o == null || !seen.add(o)) {
            return 0;
        }
        if (o.getClass().isArray()) {
            return Array.getLength(o);
        }
        int elements = 0;
        for (Field f : o.getClass().getDeclaredFields()) {
            if (!Modifier.isStatic(f.getModifiers())) {
                f.setAccessible(true);
                elements += 1 + (f.getType().isPrimitive() ? 0 : gather(f.get(o), seen));
            }
        }
        return elements;
    }

    private static boolean isPublic(Member member) {
        return Modifier.isPublic(member.getModifiers());
    }

    /** Goes through the file and gathers who calls whom. */
    private static final class Rules extends TreePathScanner<Void, Void> {
        private final CompilationUnitTree unit;
        private final Trees trees;
        private final Map<String, Set<String>> calls = new HashMap<>();
        private final Set<String> constructors = new HashSet<>();
        private final List<String> open = new ArrayList<>();
        private int classes = 0;

        Rules(CompilationUnitTree unit, Trees trees) {
            this.unit = unit;
            this.trees = trees;
            c.holds("no import, no package", unit.getImports().isEmpty() && unit.getPackageName() == null);
        }

        void close() {
            c.begin("rule 11");
            c.holds(classes + " classes", classes <= 12);
            for (String method : calls.keySet()) {
                int depth = depth(method, new HashSet<>());
                c.holds(method + " goes " + depth + " calls deep", depth <= 8);
            }
        }

        /** A method on the way here already is recursion, and counts once. */
        private int depth(String method, Set<String> way) {
            int most = 0;
            way.add(method);
            for (String next : calls.getOrDefault(method, Set.of())) {
                if (!way.contains(next)) {
                    most = Math.max(most, depth(next, way));
                }
            }
            way.remove(method);
            return most + 1;
        }

        private long line(Tree tree, boolean end) {
            long at = end ? trees.getSourcePositions().getEndPosition(unit, tree) : trees.getSourcePositions().getStartPosition(unit, tree);
            return unit.getLineMap().getLineNumber(at);
        }

        private void no(String what, Tree tree) {
            c.holds(what + " in line " + line(tree, false), false);
        }

        @Override
        public Void visitClass(ClassTree tree, Void p) {
            classes++;
            c.begin("rule 2, 5, 11");
            Element element = trees.getElement(getCurrentPath());
            boolean outer = element.getSimpleName().contentEquals("DinnerPleas");
            Set<javax.lang.model.element.Modifier> modifiers = element.getModifiers();
            c.holds(element + " is static and hidden", outer || modifiers.contains(javax.lang.model.element.Modifier.STATIC)
                    && !modifiers.contains(javax.lang.model.element.Modifier.PUBLIC));
            int fields = 0;
            for (Tree member : tree.getMembers()) {
                if (member instanceof VariableTree field) {
                    boolean fixed = field.getModifiers().getFlags().contains(javax.lang.model.element.Modifier.STATIC);
                    fields += fixed ? 0 : 1;
                    c.holds(field.getName() + ": a static field is final",
                            !fixed || field.getModifiers().getFlags().contains(javax.lang.model.element.Modifier.FINAL));
                }
                if (member instanceof BlockTree) {
                    no("an initialiser block", member);
                }
            }
            c.holds(element + " has " + fields + " fields", fields <= 20);
            return super.visitClass(tree, p);
        }

        @Override
        public Void visitMethod(MethodTree tree, Void p) {
            Element element = trees.getElement(getCurrentPath());
            String name = nameOf(element);
            c.begin("rule 11");
            c.holds(name + " is short", line(tree, true) - line(tree, false) < 60);
            c.holds(name + " has few parameters", tree.getParameters().size() <= 7);
            calls.putIfAbsent(name, new HashSet<>());
            if (element.getKind() == ElementKind.CONSTRUCTOR) {
                constructors.add(name);
            }
            open.add(name);
            super.visitMethod(tree, p);
            open.remove(open.size() - 1);
            return null;
        }

        @Override
        public Void visitMethodInvocation(MethodInvocationTree tree, Void p) {
            note(trees.getElement(getCurrentPath()), tree);
            return super.visitMethodInvocation(tree, p);
        }

        @Override
        public Void visitNewClass(NewClassTree tree, Void p) {
            if (tree.getClassBody() != null) {
                no("an anonymous class", tree);
            }
            onlyWhereAnObjectIsMade(tree);
            note(trees.getElement(getCurrentPath()), tree);
            return super.visitNewClass(tree, p);
        }

        @Override
        public Void visitNewArray(NewArrayTree tree, Void p) {
            onlyWhereAnObjectIsMade(tree);
            return super.visitNewArray(tree, p);
        }

        /** In a constructor or a field's own line; a call that makes something would fill the room. */
        private void onlyWhereAnObjectIsMade(Tree tree) {
            c.begin("rule 12");
            boolean isCall = !open.isEmpty() && !constructors.contains(open.get(open.size() - 1));
            c.holds("new in line " + line(tree, false), !isCall);
        }

        private void note(Element called, Tree tree) {
            c.begin("rule 4");
            String name = nameOf(called);
            boolean own = name.startsWith("DinnerPleas");
            boolean upward = called.getKind() == ElementKind.CONSTRUCTOR && name.startsWith("java.lang.Object");
            String plain = name.indexOf('(') < 0 ? name : name.substring(0, name.indexOf('('));
            c.holds(name + " in line " + line(tree, false), own || upward || LIBRARY.contains(plain));
            if (!open.isEmpty() && !upward) {
                calls.get(open.get(open.size() - 1)).add(name);
            }
        }

        private static String nameOf(Element element) {
            return element.getEnclosingElement() + "." + (element instanceof ExecutableElement method
                    ? method.toString() : element.getSimpleName().toString());
        }

        @Override
        public Void visitThrow(ThrowTree tree, Void p) {
            no("throw", tree);
            return null;
        }

        @Override
        public Void visitTry(TryTree tree, Void p) {
            no("try", tree);
            return null;
        }

        @Override
        public Void visitSynchronized(SynchronizedTree tree, Void p) {
            no("synchronized", tree);
            return null;
        }

        @Override
        public Void visitAssert(AssertTree tree, Void p) {
            no("assert", tree);
            return null;
        }

        @Override
        public Void visitLambdaExpression(LambdaExpressionTree tree, Void p) {
            no("a lambda", tree);
            return null;
        }

        @Override
        public Void visitMemberReference(MemberReferenceTree tree, Void p) {
            no("a method reference", tree);
            return null;
        }
    }
}
