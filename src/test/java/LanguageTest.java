import com.sun.source.tree.*;
import com.sun.source.util.JavacTask;
import com.sun.source.util.TreeScanner;
import java.io.DataInputStream;
import java.io.IOException;
import java.io.InputStream;
import java.lang.reflect.Method;
import java.lang.reflect.Modifier;
import java.nio.file.Path;
import java.util.ArrayList;
import java.util.HashSet;
import java.util.List;
import java.util.Set;
import java.util.TreeSet;
import javax.lang.model.element.Name;
import javax.tools.JavaCompiler;
import javax.tools.StandardJavaFileManager;
import javax.tools.ToolProvider;

/** What can be seen of LANGUAGE.md in the source and in the compiled classes, and the face of the document. */
public final class LanguageTest {
    private static final Check CHECK = new Check();
    private static final Path SOURCE = Path.of("src/main/java/LeftOut.java");
    private static final Set<String> LIBRARY = Set.of("java/lang/Object", "java/lang/String", "java/lang/Integer",
        "java/lang/Math", "java/lang/System", "[I");
    private static final Set<String> FACE = Set.of(
        "int gap(int,int)", "int need(int,boolean)", "int hang(int,int,int)",
        "int doing(int,int,int,int,int,boolean)", "int undo()", "int tell(int,int,boolean)", "int term(int,int)",
        "int knows(int,int)", "int before(int,int,int)", "int custom(int,int)", "int lacks(int,int,int)",
        "int write(int,long)", "int wipe()", "int fault(int)", "int rule()", "int unrule(int)",
        "int ruled(int,int)", "int order(int)", "int ordered(int,int)", "int bargain(int,int,int)",
        "int reword(int)", "int said(int,int)", "int next(int,int,int)", "int rounds(int,int,boolean)",
        "int answer(int,int)", "int fills(int,int,int)", "int reason(int,int,int)", "int open(int,int,boolean)",
        "int holds(int,int)", "int judge(int,int,int)", "int differ(int,int,int)", "int step(int,int)",
        "int moves(int,int)", "int think(int,int,int,int)", "int part(int)", "int far(int,int,int)",
        "int words(int,int)", "int worth(int,int,int)", "int best(int,int)", "int keep(int)", "int again(int)",
        "int since(int,int)", "int count(int)");

    public static void main(String[] args) throws IOException {
        face();
        source();
        library();
        CHECK.end("LanguageTest");
    }

    private static void face() {
        Set<String> face = new HashSet<>();
        Set<String> names = new HashSet<>();
        for (Method m : LeftOut.class.getDeclaredMethods()) {
            if (!Modifier.isPrivate(m.getModifiers())) {
                String title = m.toString().replace("public ", "").replace("LeftOut.", "");
                face.add(title);
                names.add(m.getName());
            }
        }
        CHECK.holds("the methods of the document and no other: " + face, face.equals(FACE));
        CHECK.due("constructors", LeftOut.class.getConstructors().length, 1);
        CHECK.due("public constants", LeftOut.class.getFields().length, 5);
        CHECK.due("UNKNOWN", LeftOut.UNKNOWN, -1);
        CHECK.due("BAD", LeftOut.BAD, -2);
        CHECK.due("LATE", LeftOut.LATE, -3);
        CHECK.due("FULL", LeftOut.FULL, -4);
        CHECK.due("NONE", LeftOut.NONE, -9);
        int classModifiers = LeftOut.class.getModifiers();
        CHECK.holds("public and final", Modifier.isPublic(classModifiers) && Modifier.isFinal(classModifiers));
        List<Class<?>> all = new ArrayList<>(List.of(LeftOut.class.getDeclaredClasses()));
        CHECK.holds("twelve classes at most", all.size() + 1 <= 12);
        for (Class<?> inside : all) {
            CHECK.holds(inside + " is static", Modifier.isStatic(inside.getModifiers()));
            fields(inside);
            for (Method m : inside.getDeclaredMethods()) {
                CHECK.holds(m + " bears a name of its own", m.isSynthetic() || !names.contains(m.getName()));
            }
        }
        fields(LeftOut.class);
    }

    private static void fields(Class<?> of) {
        int own = 0;
        for (java.lang.reflect.Field f : of.getDeclaredFields()) {
            boolean isStatic = Modifier.isStatic(f.getModifiers());
            CHECK.holds(f + " is no static state", !isStatic || Modifier.isFinal(f.getModifiers()));
            own += isStatic ? 0 : 1;
        }
        CHECK.holds(of + " has twenty fields at most", own <= 20);
    }

    private static void source() throws IOException {
        JavaCompiler compiler = ToolProvider.getSystemJavaCompiler();
        try (StandardJavaFileManager files = compiler.getStandardFileManager(null, null, null)) {
            JavacTask task = (JavacTask) compiler.getTask(null, files, null, null, null, files.getJavaFileObjects(SOURCE));
            for (CompilationUnitTree unit : task.parse()) {
                CHECK.due("imports", unit.getImports().size(), 0);
                CHECK.holds("no package", unit.getPackageName() == null);
                new Rules(unit.getLineMap(), task).scan(unit, null);
            }
        }
    }

    /** What no line of the class may be. */
    private static final class Rules extends TreeScanner<Void, Void> {
        private static final Set<Tree.Kind> FORBIDDEN = Set.of(Tree.Kind.THROW, Tree.Kind.TRY, Tree.Kind.CATCH,
            Tree.Kind.SYNCHRONIZED, Tree.Kind.ASSERT, Tree.Kind.LAMBDA_EXPRESSION, Tree.Kind.MEMBER_REFERENCE,
            Tree.Kind.ANNOTATION, Tree.Kind.WHILE_LOOP, Tree.Kind.DO_WHILE_LOOP, Tree.Kind.SWITCH_EXPRESSION);

        private final LineMap lines;
        private final com.sun.source.util.SourcePositions positions;
        private CompilationUnitTree unit;

        Rules(LineMap lines, JavacTask task) {
            this.lines = lines;
            positions = com.sun.source.util.Trees.instance(task).getSourcePositions();
        }

        @Override
        public Void scan(Tree tree, Void none) {
            if (tree != null) {
                CHECK.holds("no " + tree.getKind(), !FORBIDDEN.contains(tree.getKind()));
            }
            return super.scan(tree, none);
        }

        @Override
        public Void visitCompilationUnit(CompilationUnitTree tree, Void none) {
            unit = tree;
            return super.visitCompilationUnit(tree, none);
        }

        @Override
        public Void visitNewClass(NewClassTree tree, Void none) {
            CHECK.holds("no class without a name", tree.getClassBody() == null);
            return super.visitNewClass(tree, none);
        }

        @Override
        public Void visitMethod(MethodTree tree, Void none) {
            Name name = tree.getName();
            long first = lines.getLineNumber(positions.getStartPosition(unit, tree));
            long last = lines.getLineNumber(positions.getEndPosition(unit, tree));
            CHECK.holds(name + " is short", last - first < 60);
            CHECK.holds(name + " takes seven at most", tree.getParameters().size() <= 7);
            return super.visitMethod(tree, none);
        }
    }

    private static void library() throws IOException {
        Set<String> used = new TreeSet<>(used("LeftOut"));
        for (Class<?> inside : LeftOut.class.getDeclaredClasses()) {
            used.addAll(used(inside.getName()));
        }
        used.removeIf(name -> name.startsWith("LeftOut") || name.matches("\\[+(I|LLeftOut.*)"));
        CHECK.holds("only what LANGUAGE.md lists: " + used, LIBRARY.containsAll(used));
    }

    /** The classes that a compiled class names, out of its pool of constants. */
    private static Set<String> used(String name) throws IOException {
        try (InputStream file = LanguageTest.class.getResourceAsStream(name + ".class");
                DataInputStream in = new DataInputStream(file)) {
            in.skipBytes(8);
            int size = in.readUnsignedShort();
            String[] texts = new String[size];
            List<Integer> classes = new ArrayList<>();
            for (int i = 1; i < size; i++) {
                int tag = in.readUnsignedByte();
                switch (tag) {
                    case 1 -> texts[i] = in.readUTF();
                    case 7 -> classes.add(in.readUnsignedShort());
                    case 8, 16, 19, 20 -> in.skipBytes(2);
                    case 15 -> in.skipBytes(3);
                    case 5, 6 -> {
                        in.skipBytes(8);
                        i++;
                    }
                    case 17, 18 -> CHECK.holds("no call that is linked when it runs, in " + name, in.readInt() == 0);
                    default -> in.skipBytes(4);
                }
            }
            Set<String> used = new HashSet<>();
            for (int place : classes) {
                used.add(texts[place]);
            }
            used.removeIf(text -> text.startsWith("java/lang/invoke/"));
            return used;
        }
    }
}
