import com.sun.source.tree.*;
import com.sun.source.util.JavacTask;
import com.sun.source.util.TreePathScanner;
import com.sun.source.util.Trees;
import java.lang.reflect.Array;
import java.lang.reflect.Field;
import java.lang.reflect.Method;
import java.lang.reflect.Modifier;
import java.nio.file.Files;
import java.nio.file.Path;
import java.util.ArrayDeque;
import java.util.Deque;
import java.util.HashMap;
import java.util.HashSet;
import java.util.IdentityHashMap;
import java.util.List;
import java.util.Map;
import java.util.Random;
import java.util.Set;
import java.util.TreeSet;
import javax.lang.model.element.Element;
import javax.lang.model.element.ElementKind;
import javax.lang.model.element.ExecutableElement;
import javax.lang.model.element.TypeElement;
import javax.lang.model.type.ArrayType;
import javax.lang.model.type.TypeKind;
import javax.lang.model.type.TypeMirror;
import javax.tools.JavaCompiler;
import javax.tools.StandardJavaFileManager;
import javax.tools.ToolProvider;

/** The program against LANGUAGE.md, rule by rule, as the compiler reads it; rules 7 and 12 by running it too. */
public final class SafetyPinsLanguage {
    private static final int MOST_LINES = 60, MOST_PARAMETERS = 7, MOST_DEPTH = 8, MOST_CLASSES = 12, MOST_FIELDS = 20;

    /** What of rule 4's list the program has a use for; whoever needs more of the list adds it here. */
    private static final Set<String> LIBRARY = Set.of("java.lang.Integer.bitCount", "java.lang.Math.floorMod",
        "java.lang.Math.min", "java.lang.Math.max", "java.lang.Object.<init>");

    /** What rules 2 to 6 bar, and what they leave but the program has no use for: whoever has one takes it out here. */
    private static final Set<Tree.Kind> BARRED = Set.of(Tree.Kind.THROW, Tree.Kind.TRY, Tree.Kind.CATCH, Tree.Kind.SYNCHRONIZED,
        Tree.Kind.ASSERT, Tree.Kind.LAMBDA_EXPRESSION, Tree.Kind.MEMBER_REFERENCE, Tree.Kind.SWITCH_EXPRESSION,
        Tree.Kind.STRING_LITERAL, Tree.Kind.FLOAT_LITERAL, Tree.Kind.DOUBLE_LITERAL, Tree.Kind.ANNOTATION, Tree.Kind.IMPORT,
        Tree.Kind.TYPE_CAST, Tree.Kind.INSTANCE_OF, Tree.Kind.WHILE_LOOP, Tree.Kind.DO_WHILE_LOOP);

    private static int wrong = 0;

    static void must(int rule, boolean holds, String what) {
        if (!holds) {
            wrong++;
            System.out.println("LANGUAGE.md, rule " + rule + ": " + what);
        }
    }

    public static void main(String[] args) throws Exception {
        Path program = Path.of(args[0]);
        String source = Files.readString(program);
        must(4, source.chars().allMatch(sign -> sign == '\n' || sign >= 32 && sign < 127), "another sign than the plain ones");
        Reading reading = read(program);
        must(11, reading.classes <= MOST_CLASSES, reading.classes + " classes");
        reading.judgeCalls();
        room();
        System.out.println(wrong == 0 ? "the program keeps to its language" : wrong + " faults of the language");
        if (wrong != 0) {
            System.exit(1);
        }
    }

    private static Reading read(Path program) throws Exception {
        JavaCompiler compiler = ToolProvider.getSystemJavaCompiler();
        try (StandardJavaFileManager files = compiler.getStandardFileManager(null, null, null)) {
            JavacTask task = (JavacTask) compiler.getTask(null, files, null, List.of("-proc:none"), null,
                files.getJavaFileObjects(program));
            CompilationUnitTree unit = task.parse().iterator().next();
            task.analyze();
            must(1, unit.getPackage() == null, "a package line");
            must(4, unit.getImports().isEmpty(), "imports");
            must(1, unit.getTypeDecls().size() == 1, "one public class in the file");
            Reading reading = new Reading(Trees.instance(task), unit);
            reading.scan(unit, null);
            return reading;
        }
    }

    // ---- as the compiler reads it

    private static final class Reading extends TreePathScanner<Void, Void> {
        private final Trees trees;
        private final CompilationUnitTree unit;
        private final Map<Element, Set<Element>> calls = new HashMap<>();
        private final Set<Element> makers = new HashSet<>();
        private final Set<Element> publicCalls = new HashSet<>();
        private final Set<String> publicNames = new TreeSet<>();
        private final Set<String> otherNames = new TreeSet<>();
        private final Deque<Element> within = new ArrayDeque<>();
        private int classes = 0;

        Reading(Trees trees, CompilationUnitTree unit) {
            this.trees = trees;
            this.unit = unit;
        }

        private String where(Tree tree) {
            long at = trees.getSourcePositions().getStartPosition(unit, tree);
            return "line " + unit.getLineMap().getLineNumber(at) + ": ";
        }

        private Element element() {
            return trees.getElement(getCurrentPath());
        }

        @Override
        public Void scan(Tree tree, Void none) {
            if (tree != null && BARRED.contains(tree.getKind())) {
                barred(tree);
            }
            return super.scan(tree, none);
        }

        private void barred(Tree tree) {
            boolean isOfNumbers = tree instanceof TypeCastTree cast && cast.getType().toString().matches("int|long");
            must(6, isOfNumbers, where(tree) + tree.getKind());
        }

        @Override
        public Void visitClass(ClassTree tree, Void none) {
            classes++;
            TypeElement type = (TypeElement) element();
            Set<javax.lang.model.element.Modifier> modifiers = type.getModifiers();
            boolean isOuter = type.getEnclosingElement().getKind() == ElementKind.PACKAGE;
            if (isOuter) {
                must(1, modifiers.toString().equals("[public, final]"), where(tree) + modifiers);
            } else {
                must(2, type.getEnclosingElement().getKind() == ElementKind.CLASS, where(tree) + "a local or anonymous class");
                must(2, modifiers.contains(javax.lang.model.element.Modifier.STATIC), where(tree) + "an inner class");
                must(1, !modifiers.contains(javax.lang.model.element.Modifier.PUBLIC)
                    && !modifiers.contains(javax.lang.model.element.Modifier.PROTECTED), where(tree) + modifiers);
            }
            int fields = 0;
            for (Tree member : tree.getMembers()) {
                must(5, !(member instanceof BlockTree), where(member) + "an initialiser block");
                fields += member instanceof VariableTree field && !field.getModifiers().getFlags()
                    .contains(javax.lang.model.element.Modifier.STATIC) ? 1 : 0;
            }
            must(11, fields <= MOST_FIELDS, where(tree) + fields + " fields");
            return super.visitClass(tree, none);
        }

        @Override
        public Void visitVariable(VariableTree tree, Void none) {
            Element variable = element();
            mustBeTold(variable.asType(), tree);
            if (variable.getKind() == ElementKind.FIELD) {
                field(tree, variable);
            }
            return super.visitVariable(tree, none);
        }

        private void field(VariableTree tree, Element field) {
            Set<javax.lang.model.element.Modifier> modifiers = field.getModifiers();
            boolean isOfTheFace = Set.of("UNKNOWN", "OUTSIDE", "STATE", "FULL", "NONE").contains(tree.getName().toString());
            boolean isOuter = field.getEnclosingElement().getEnclosingElement().getKind() == ElementKind.PACKAGE;
            if (isOuter) {
                must(1, modifiers.contains(javax.lang.model.element.Modifier.PRIVATE) != isOfTheFace, where(tree) + tree);
            }
            if (modifiers.contains(javax.lang.model.element.Modifier.STATIC)) {
                must(5, modifiers.contains(javax.lang.model.element.Modifier.FINAL), where(tree) + tree);
                boolean isWrittenOut = tree.getInitializer() instanceof NewArrayTree rows && rows.getInitializers() != null;
                must(5, tree.getInitializer() instanceof LiteralTree || tree.getInitializer() instanceof UnaryTree || isWrittenOut,
                    where(tree) + tree);
            }
        }

        /** Numbers, booleans, own classes, and arrays of one dimension of these. */
        private void mustBeTold(TypeMirror type, Tree tree) {
            TypeMirror inner = type instanceof ArrayType row ? row.getComponentType() : type;
            must(3, inner.getKind().isPrimitive() || inner.getKind() == TypeKind.VOID
                || inner.toString().startsWith("SafetyPins."), where(tree) + type);
            must(3, inner.getKind() != TypeKind.DOUBLE && inner.getKind() != TypeKind.FLOAT, where(tree) + type);
        }

        @Override
        public Void visitMethod(MethodTree tree, Void none) {
            ExecutableElement method = (ExecutableElement) element();
            boolean isOuter = method.getEnclosingElement().getEnclosingElement().getKind() == ElementKind.PACKAGE;
            boolean isPrivate = method.getModifiers().contains(javax.lang.model.element.Modifier.PRIVATE);
            boolean isOfTheFace = isOuter && method.getModifiers().contains(javax.lang.model.element.Modifier.PUBLIC);
            must(1, !isOuter || isPrivate || isOfTheFace, where(tree) + "neither private nor public");
            if (isOfTheFace) {
                publicCalls.add(method);
                publicNames.add(tree.getName().toString());
            } else if (tree.getReturnType() != null) {
                otherNames.add(tree.getName().toString());
            }
            if (tree.getReturnType() != null) {
                mustBeTold(method.getReturnType(), tree);
            }
            must(11, tree.getParameters().size() <= MOST_PARAMETERS, where(tree) + "parameters");
            long from = unit.getLineMap().getLineNumber(trees.getSourcePositions().getStartPosition(unit, tree));
            long to = unit.getLineMap().getLineNumber(Math.max(0, trees.getSourcePositions().getEndPosition(unit, tree)));
            must(11, to - from < MOST_LINES, where(tree) + (to - from + 1) + " lines");
            within.push(method);
            calls.put(method, new HashSet<>());
            super.visitMethod(tree, none);
            within.pop();
            return null;
        }

        @Override
        public Void visitMethodInvocation(MethodInvocationTree tree, Void none) {
            called(tree);
            return super.visitMethodInvocation(tree, none);
        }

        @Override
        public Void visitNewClass(NewClassTree tree, Void none) {
            must(2, tree.getClassBody() == null, where(tree) + "an anonymous class");
            called(tree);
            makers.addAll(within);
            return super.visitNewClass(tree, none);
        }

        @Override
        public Void visitNewArray(NewArrayTree tree, Void none) {
            makers.addAll(within);
            return super.visitNewArray(tree, none);
        }

        private void called(Tree tree) {
            Element called = element();
            String name = called.getEnclosingElement() + "." + called.getSimpleName();
            if (name.startsWith("SafetyPins")) {
                if (!within.isEmpty()) {
                    calls.get(within.peek()).add(called);
                }
            } else {
                must(4, LIBRARY.contains(name), where(tree) + name);
            }
        }

        @Override
        public Void visitAssignment(AssignmentTree tree, Void none) {
            mustNotBeStatic(tree.getVariable());
            return super.visitAssignment(tree, none);
        }

        @Override
        public Void visitCompoundAssignment(CompoundAssignmentTree tree, Void none) {
            mustNotBeStatic(tree.getVariable());
            return super.visitCompoundAssignment(tree, none);
        }

        private void mustNotBeStatic(ExpressionTree changed) {
            String name = changed.toString().replaceFirst("\\[.*", "");
            must(5, !name.matches("[A-Z][A-Z_]*"), where(changed) + name + " is changed");
        }

        /** A counter of the loop's own, against a bound, one step each time. */
        @Override
        public Void visitForLoop(ForLoopTree tree, Void none) {
            boolean hasCounter = tree.getInitializer().size() == 1 && tree.getInitializer().get(0) instanceof VariableTree;
            must(9, hasCounter && tree.getCondition() != null && tree.getUpdate().size() == 1, where(tree) + "no counter");
            if (hasCounter) {
                String counter = ((VariableTree) tree.getInitializer().get(0)).getName().toString();
                must(9, tree.getCondition().toString().replaceAll("[()]", "").matches(counter + " <=? .*"), where(tree) + "no bound");
                must(9, tree.getUpdate().get(0).toString().equals(counter + "++;"), where(tree) + "no step");
                must(9, !tree.getStatement().toString().matches("(?s).*\\b" + counter + " [-+*/%]?= .*"), where(tree) + "its counter is set");
            }
            return super.visitForLoop(tree, none);
        }

        // ---- who calls whom

        void judgeCalls() {
            must(1, publicNames.size() == 30, "29 calls and the constructor are due: " + publicNames);
            for (String name : otherNames) {
                must(1, !publicNames.contains(name), "not of the face, but named so: " + name);
            }
            for (Element call : publicCalls) {
                int deep = depth(call, new ArrayDeque<>());
                must(11, deep <= MOST_DEPTH, call + " goes " + deep + " calls deep");
                boolean makes = reached(call).stream().anyMatch(makers::contains);
                must(12, !makes || call.getKind() == ElementKind.CONSTRUCTOR, call + " makes objects");
            }
        }

        private int depth(Element call, Deque<Element> open) {
            if (open.contains(call)) {
                must(8, false, call + " comes back to itself");
                return 0;
            }
            open.push(call);
            int deepest = 0;
            for (Element next : calls.getOrDefault(call, Set.of())) {
                deepest = Math.max(deepest, depth(next, open));
            }
            open.pop();
            return 1 + deepest;
        }

        private Set<Element> reached(Element from) {
            Set<Element> all = new HashSet<>();
            Deque<Element> todo = new ArrayDeque<>(List.of(from));
            while (!todo.isEmpty()) {
                Element call = todo.pop();
                if (all.add(call)) {
                    todo.addAll(calls.getOrDefault(call, Set.of()));
                }
            }
            return all;
        }
    }

    // ---- the room that a run takes

    private static void room() throws Exception {
        SafetyPins x = new SafetyPins();
        IdentityHashMap<Object, Boolean> atFirst = new IdentityHashMap<>();
        int fields = gather(x, atFirst);
        must(12, atFirst.size() <= 100, "an object of " + atFirst.size() + " objects and arrays");
        must(12, fields <= 600, "an object of " + fields + " fields and elements");
        String told = atFirst.size() + " objects and arrays, " + fields + " fields and elements";
        must(12, Files.readString(Path.of("README.md")).contains(told), "README.md tells another room than " + told);
        for (char letter : "SN0102N1212N2303N3411W09W28D03D15".toCharArray()) {
            x.write(letter);
        }
        x.town();
        Random dice = new Random(12);
        for (int call = 0; call < 470; call++) {
            anyCall(x, dice);
        }
        IdentityHashMap<Object, Boolean> behind = new IdentityHashMap<>();
        must(12, gather(x, behind) == fields, "what an object holds grew");
        behind.keySet().removeAll(atFirst.keySet());
        must(12, behind.isEmpty(), "a call made what an object holds: " + behind.keySet());
    }

    private static void anyCall(SafetyPins x, Random dice) throws Exception {
        Method[] all = SafetyPins.class.getDeclaredMethods();
        Method call = all[dice.nextInt(all.length)];
        if (!Modifier.isPublic(call.getModifiers())) {
            return;
        }
        Object[] numbers = new Object[call.getParameterCount()];
        for (int i = 0; i < numbers.length; i++) {
            Class<?> type = call.getParameterTypes()[i];
            int number = dice.nextInt(6) - 1;
            numbers[i] = type == int.class ? (Object) number : type == long.class ? (Object) (number * 101101L) : (Object) (number > 0);
        }
        call.invoke(x, numbers);
    }

    /** All that an object holds, and their fields and elements counted. */
    private static int gather(Object from, IdentityHashMap<Object, Boolean> all) throws IllegalAccessException {
        if (from == null || all.put(from, true) != null) {
            return 0;
        }
        int fields = 0;
        if (from.getClass().isArray()) {
            int length = Array.getLength(from);
            for (int i = 0; i < length && !from.getClass().getComponentType().isPrimitive(); i++) {
                fields += gather(Array.get(from, i), all);
            }
            return fields + length;
        }
        for (Field field : from.getClass().getDeclaredFields()) {
            if (!Modifier.isStatic(field.getModifiers())) {
                field.setAccessible(true);
                fields += 1 + (field.getType().isPrimitive() ? 0 : gather(field.get(from), all));
            }
        }
        return fields;
    }
}
