import com.sun.source.tree.AssertTree;
import com.sun.source.tree.BinaryTree;
import com.sun.source.tree.BlockTree;
import com.sun.source.tree.ClassTree;
import com.sun.source.tree.CompilationUnitTree;
import com.sun.source.tree.ImportTree;
import com.sun.source.tree.LambdaExpressionTree;
import com.sun.source.tree.LineMap;
import com.sun.source.tree.LiteralTree;
import com.sun.source.tree.MemberReferenceTree;
import com.sun.source.tree.MethodInvocationTree;
import com.sun.source.tree.MethodTree;
import com.sun.source.tree.NewClassTree;
import com.sun.source.tree.SynchronizedTree;
import com.sun.source.tree.ThrowTree;
import com.sun.source.tree.Tree;
import com.sun.source.tree.TryTree;
import com.sun.source.tree.VariableTree;
import com.sun.source.util.JavacTask;
import com.sun.source.util.SourcePositions;
import com.sun.source.util.TreePathScanner;
import com.sun.source.util.Trees;
import java.io.File;
import java.nio.charset.StandardCharsets;
import java.nio.file.Files;
import java.nio.file.Paths;
import java.util.ArrayList;
import java.util.HashMap;
import java.util.LinkedHashSet;
import java.util.List;
import java.util.Map;
import java.util.Set;
import javax.lang.model.element.Element;
import javax.lang.model.element.ElementKind;
import javax.lang.model.element.Modifier;
import javax.lang.model.element.TypeElement;
import javax.lang.model.type.TypeMirror;
import javax.tools.JavaCompiler;
import javax.tools.StandardJavaFileManager;
import javax.tools.ToolProvider;

/** The face of the document and those rules of ../shared/LANGUAGE.md that can be seen from the source alone. */
public final class LanguageTest {
    private static final String SOURCE = "src/main/java/GainTrees.java";
    private static final String DOCUMENT = "../shared/DOC.md";
    private static final int MOST_PARAMETERS = 7;
    private static final int MOST_LINES = 60;
    private static final int MOST_CLASSES = 12;
    private static final int MOST_FIELDS = 20;
    private static final int MOST_CALLS = 8;
    private static final List<String> CONSTANTS = List.of("int", "long", "boolean", "char", "java.lang.String",
            "int[]", "long[]", "char[]", "byte[]");
    private static final List<String> THROWN = List.of("IllegalStateException", "IllegalArgumentException",
            "NoSuchElementException");
    private static final List<String> LIBRARY = List.of("java.lang.String.length", "java.lang.String.charAt",
            "java.lang.Math.max", "java.lang.Math.min", "java.lang.Math.abs", "java.lang.Integer.compare",
            "java.lang.Long.compare", "java.lang.System.arraycopy");

    private LanguageTest() {
    }

    public static void main(String[] args) throws Exception {
        JavaCompiler compiler = ToolProvider.getSystemJavaCompiler();
        if (compiler == null) {
            System.out.println("LanguageTest: this java has no compiler to read the source with, nothing is asked");
            return;
        }
        try (StandardJavaFileManager files = compiler.getStandardFileManager(null, null, null)) {
            JavacTask task = (JavacTask) compiler.getTask(null, files, null, List.of("-proc:none"), null,
                    files.getJavaFileObjects(new File(SOURCE)));
            CompilationUnitTree unit = task.parse().iterator().next();
            task.analyze();
            Reader reader = new Reader(Trees.instance(task), unit);
            reader.scan(unit, null);
            reader.findNamesTwice();
            if (Files.exists(Paths.get(DOCUMENT))) {
                theFaceIs(reader.face, faceOfTheDocument());
            } else {
                System.out.println("LanguageTest: no " + DOCUMENT + ", the face is not asked");
            }
            Check.due("breaches", reader.breaches, List.of());
            Check.due("classes are at most " + MOST_CLASSES, reader.classes <= MOST_CLASSES, true);
            Check.due("calls go at most " + MOST_CALLS + " deep", reader.deepest() <= MOST_CALLS, true);
        }
        Check.end("LanguageTest");
    }

    private static void theFaceIs(List<String> face, List<String> wanted) {
        Check.due("lines of the face", face.size(), wanted.size());
        for (int i = 0; i < face.size() && i < wanted.size(); i++) {
            Check.due("line " + i + " of the face", face.get(i), wanted.get(i));
        }
    }

    /** The lines of the document's class, each without what ends it. */
    private static List<String> faceOfTheDocument() throws Exception {
        List<String> face = new ArrayList<>();
        boolean inside = false;
        for (String line : Files.readAllLines(Paths.get(DOCUMENT), StandardCharsets.UTF_8)) {
            if (line.equals("public final class GainTrees {")) {
                inside = true;
            } else if (line.equals("}") && inside) {
                return face;
            } else if (inside) {
                face.add(line.trim().replace(";", ""));
            }
        }
        return face;
    }

    private static final class Reader extends TreePathScanner<Void, Void> {
        private final Trees trees;
        private final CompilationUnitTree unit;
        private final SourcePositions positions;
        private final LineMap lines;
        private final List<String> face = new ArrayList<>();
        private final List<String> breaches = new ArrayList<>();
        private final List<String> privates = new ArrayList<>();
        private final Map<Element, Set<Element>> calls = new HashMap<>();
        private final Map<Element, Integer> depths = new HashMap<>();
        private final List<Element> publics = new ArrayList<>();
        private int classes;
        private MethodTree method;

        Reader(Trees trees, CompilationUnitTree unit) {
            this.trees = trees;
            this.unit = unit;
            positions = trees.getSourcePositions();
            lines = unit.getLineMap();
        }

        private void breach(Tree at, String rule) {
            breaches.add("line " + lines.getLineNumber(positions.getStartPosition(unit, at)) + ": " + rule);
        }

        private void need(boolean good, Tree at, String rule) {
            if (!good) {
                breach(at, rule);
            }
        }

        @Override
        public Void visitImport(ImportTree node, Void none) {
            need(node.getQualifiedIdentifier().toString().equals("java.util.NoSuchElementException"), node, "rule 4");
            return null;
        }

        @Override
        public Void visitClass(ClassTree node, Void none) {
            classes++;
            Set<Modifier> flags = node.getModifiers().getFlags();
            boolean outer = classes == 1;
            if (outer) {
                need(flags.equals(Set.of(Modifier.PUBLIC, Modifier.FINAL)), node, "rule 1, the class");
            } else {
                need(flags.contains(Modifier.STATIC) && !flags.contains(Modifier.PUBLIC), node, "rule 1, a class inside");
            }
            int fields = 0;
            for (Tree member : node.getMembers()) {
                if (member instanceof VariableTree) {
                    fields += field((VariableTree) member, outer);
                }
                need(!(member instanceof BlockTree && ((BlockTree) member).isStatic()), member, "rule 5, a static block");
            }
            need(fields <= MOST_FIELDS, node, "rule 11, " + fields + " fields");
            return super.visitClass(node, none);
        }

        /** How many fields beside constants this is. */
        private int field(VariableTree node, boolean outer) {
            Set<Modifier> flags = node.getModifiers().getFlags();
            if (outer && flags.contains(Modifier.PUBLIC)) {
                face.add("public static final " + node.getType() + " " + node.getName() + " = " + node.getInitializer());
            } else if (outer) {
                need(flags.contains(Modifier.PRIVATE), node, "rule 1, a field");
            }
            if (!flags.contains(Modifier.STATIC)) {
                return 1;
            }
            String type = trees.getTypeMirror(trees.getPath(unit, node.getType())).toString();
            need(flags.contains(Modifier.FINAL) && CONSTANTS.contains(type), node, "rule 5, a static field");
            return 0;
        }

        @Override
        public Void visitMethod(MethodTree node, Void none) {
            Element element = trees.getElement(getCurrentPath());
            long from = lines.getLineNumber(positions.getStartPosition(unit, node));
            long to = lines.getLineNumber(positions.getEndPosition(unit, node));
            need(to - from < MOST_LINES, node, "rule 11, " + (to - from + 1) + " lines");
            need(node.getParameters().size() <= MOST_PARAMETERS, node, "rule 11, parameters");
            Set<Modifier> flags = node.getModifiers().getFlags();
            boolean outer = element.getEnclosingElement().getEnclosingElement().getKind() == ElementKind.PACKAGE;
            if (outer && flags.contains(Modifier.PUBLIC)) {
                face.add(signature(node));
                publics.add(element);
            } else if (outer) {
                need(flags.contains(Modifier.PRIVATE), node, "rule 1, a method");
            }
            if (flags.contains(Modifier.PRIVATE) && node.getReturnType() != null) {
                privates.add(node.getName().toString());
            }
            MethodTree around = method;
            method = node;
            calls.put(element, new LinkedHashSet<>());
            super.visitMethod(node, none);
            method = around;
            return null;
        }

        private static String signature(MethodTree node) {
            StringBuilder text = new StringBuilder("public ");
            boolean makes = node.getReturnType() == null;
            text.append(makes ? "GainTrees" : node.getReturnType() + " " + node.getName()).append('(');
            for (int i = 0; i < node.getParameters().size(); i++) {
                VariableTree given = node.getParameters().get(i);
                text.append(i == 0 ? "" : ", ").append(given.getType()).append(' ').append(given.getName());
            }
            text.append(')');
            for (int i = 0; i < node.getThrows().size(); i++) {
                text.append(i == 0 ? " throws " : ", ").append(node.getThrows().get(i));
            }
            return text.toString();
        }

        @Override
        public Void visitMethodInvocation(MethodInvocationTree node, Void none) {
            called(trees.getElement(getCurrentPath()), node);
            return super.visitMethodInvocation(node, none);
        }

        @Override
        public Void visitNewClass(NewClassTree node, Void none) {
            Element made = trees.getElement(getCurrentPath());
            if (made != null && method != null && calls.containsKey(enclosing())) {
                String type = ((TypeElement) made.getEnclosingElement()).getQualifiedName().toString();
                if (type.startsWith("GainTrees")) {
                    calls.get(enclosing()).add(made);
                } else {
                    need(THROWN.contains(node.getIdentifier().toString()), node, "rule 4, " + type);
                }
            }
            return super.visitNewClass(node, none);
        }

        private Element enclosing() {
            return trees.getElement(trees.getPath(unit, method));
        }

        private void called(Element element, Tree at) {
            String type = ((TypeElement) element.getEnclosingElement()).getQualifiedName().toString();
            String name = type + "." + element.getSimpleName();
            if (type.startsWith("GainTrees")) {
                calls.get(enclosing()).add(element);
            } else if (!name.equals("java.lang.Object.<init>")) {
                need(LIBRARY.contains(name), at, "rule 4, " + name);
            }
        }

        @Override
        public Void visitThrow(ThrowTree node, Void none) {
            boolean plain = node.getExpression() instanceof NewClassTree;
            need(plain, node, "rule 6, what is thrown");
            if (plain) {
                NewClassTree made = (NewClassTree) node.getExpression();
                need(THROWN.contains(made.getIdentifier().toString()), node, "rule 6, another exception");
                for (Tree told : made.getArguments()) {
                    need(told instanceof LiteralTree, node, "rule 6, a text that is not written");
                }
            }
            need(method != null && method.getReturnType() != null, node, "rule 6, a throw in a constructor");
            return super.visitThrow(node, none);
        }

        @Override
        public Void visitBinary(BinaryTree node, Void none) {
            TypeMirror type = trees.getTypeMirror(getCurrentPath());
            need(!type.toString().equals("java.lang.String"), node, "rule 10, texts joined by +");
            return super.visitBinary(node, none);
        }

        @Override
        public Void visitVariable(VariableTree node, Void none) {
            String type = String.valueOf(node.getType());
            need(!type.startsWith("double") && !type.startsWith("float"), node, "a number that is not exact");
            return super.visitVariable(node, none);
        }

        @Override
        public Void visitTry(TryTree node, Void none) {
            breach(node, "the class catches nothing");
            return super.visitTry(node, none);
        }

        @Override
        public Void visitLambdaExpression(LambdaExpressionTree node, Void none) {
            breach(node, "rule 2, a lambda");
            return super.visitLambdaExpression(node, none);
        }

        @Override
        public Void visitMemberReference(MemberReferenceTree node, Void none) {
            breach(node, "rule 2, a method reference");
            return super.visitMemberReference(node, none);
        }

        @Override
        public Void visitSynchronized(SynchronizedTree node, Void none) {
            breach(node, "rule 6, synchronized");
            return super.visitSynchronized(node, none);
        }

        @Override
        public Void visitAssert(AssertTree node, Void none) {
            breach(node, "rule 6, assert");
            return super.visitAssert(node, none);
        }

        void findNamesTwice() {
            for (Element called : publics) {
                if (privates.contains(called.getSimpleName().toString())) {
                    breaches.add("rule 1, a private method has the name of " + called);
                }
            }
        }

        int deepest() {
            int deepest = 0;
            for (Element called : publics) {
                deepest = Math.max(deepest, depth(called, new ArrayList<>()));
            }
            return deepest;
        }

        /** How many calls stand open at once below and with this one; far too many if it calls itself. */
        private int depth(Element called, List<Element> open) {
            if (open.contains(called)) {
                return 1000;
            }
            Integer known = depths.get(called);
            if (known != null) {
                return known;
            }
            open.add(called);
            int deepest = 0;
            for (Element next : calls.getOrDefault(called, Set.of())) {
                deepest = Math.max(deepest, depth(next, open));
            }
            open.remove(called);
            depths.put(called, deepest + 1);
            return deepest + 1;
        }
    }
}
