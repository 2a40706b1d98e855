import com.sun.source.tree.*;
import com.sun.source.util.JavacTask;
import com.sun.source.util.TreeScanner;
import java.lang.reflect.Member;
import java.lang.reflect.Modifier;
import java.nio.file.Files;
import java.nio.file.Path;
import java.util.ArrayList;
import java.util.Arrays;
import java.util.List;
import java.util.Map;
import java.util.Set;
import java.util.TreeSet;
import java.util.stream.Stream;
import javax.tools.JavaCompiler;
import javax.tools.StandardJavaFileManager;
import javax.tools.ToolProvider;

/** The rules of LANGUAGE.md that can be read off the source, and the document's public face. */
public final class LanguageTest {
    private static final Path SOURCE = Path.of("src/main/java/DustYards.java");
    private static final String FACE = "pass(int) cart(int,int,int,int,int,int) cartTold(int,int) sift(int,int) "
            + "fire(int,int) lies(int) stock(int) sell(int,int) price(int,int,int) priceOf(int,int,int) "
            + "feed(int,long) text() contract(int,int,int) contractOf(int,int) says(int,int) owed(int,int,int) "
            + "find(int,int,int) whose(int) finds(int) door(int,int,int,int) miss(int) rounds(int,int,int) "
            + "row(int,int) bid(int,int,int,int) wins(int,int,int) laid(int,int) barge(int,int) tide(int,int) "
            + "buyer(int,int) stop(int,int) parted(int) count(int) sheet(int,int,int) cell(int,int,int) "
            + "copy(int,int,int,int,int) prices(int,int,int,int,int,int) taken(int,int)";
    private static final Set<String> LONGS = Set.of("says", "owed", "finds", "bid", "parted");
    private static final Map<String, Set<String>> LIBRARY = Map.of(
            "System", Set.of("arraycopy"),
            "Arrays", Set.of("copyOf", "copyOfRange", "fill"),
            "Math", Set.of("max", "min", "abs", "floorDiv", "floorMod"),
            "Integer", Set.of("bitCount", "compare"),
            "Long", Set.of("compare"));
    private static final Set<Tree.Kind> NEVER = Set.of(Tree.Kind.THROW, Tree.Kind.TRY, Tree.Kind.CATCH,
            Tree.Kind.SYNCHRONIZED, Tree.Kind.ASSERT, Tree.Kind.LAMBDA_EXPRESSION, Tree.Kind.MEMBER_REFERENCE,
            Tree.Kind.ANNOTATION);

    private LanguageTest() {
    }

    public static void main(String[] args) throws Exception {
        face();
        headings();
        source();
        Due.end();
    }

    private static void is(String what, boolean is) {
        Due.is(what, is ? 1 : 0, 1);
    }

    private static void face() {
        Set<String> found = new TreeSet<>();
        for (var m : DustYards.class.getDeclaredMethods()) {
            if (!Modifier.isPrivate(m.getModifiers())) {
                String types = String.join(",", Stream.of(m.getParameterTypes()).map(Class::getName).toList());
                found.add(m.getName() + "(" + types + ")");
                is("rule 1: public " + m.getName(), Modifier.isPublic(m.getModifiers()));
                is("rule 1: no static " + m.getName(), !Modifier.isStatic(m.getModifiers()));
                is("type of " + m.getName(), m.getReturnType() == (LONGS.contains(m.getName()) ? long.class : int.class));
            }
        }
        is("rule 1: the methods of the face", found.equals(new TreeSet<>(List.of(FACE.split(" ")))));
        List<String> fields = Stream.of(DustYards.class.getDeclaredFields())
                .filter(f -> !Modifier.isPrivate(f.getModifiers())).map(Member::getName).sorted().toList();
        is("rule 1: the constants of the face", fields.equals(List.of("BAD", "FULL", "NO", "NONE", "STATE")));
        is("rule 1: one constructor", DustYards.class.getDeclaredConstructors().length == 1);
        is("rule 1: public and final", Modifier.isPublic(DustYards.class.getModifiers())
                && Modifier.isFinal(DustYards.class.getModifiers()));
        for (Class<?> inside : DustYards.class.getDeclaredClasses()) {
            is("rule 2: static " + inside, Modifier.isStatic(inside.getModifiers()));
        }
        is("rule 11: some twelve classes", DustYards.class.getDeclaredClasses().length < 12);
    }

    /** What the document's interface says ahead of its calls, with the first call behind it. */
    private static void headings() throws Exception {
        Map<String, String> first = Map.of("carts, heaps", "cart", "prices, contracts", "price", "doors, bids", "door",
                "hands, barges, buyers", "wins", "the host", "sheet");
        String source = Files.readString(SOURCE);
        for (Map.Entry<String, String> heading : first.entrySet()) {
            int at = source.indexOf("    // ---- " + heading.getKey() + "\n");
            String behind = at < 0 ? "" : source.substring(at).split("\\R", 4)[2];
            is("---- " + heading.getKey(), behind.startsWith("    public int " + heading.getValue() + "("));
        }
    }

    private static void source() throws Exception {
        JavaCompiler javac = ToolProvider.getSystemJavaCompiler();
        try (StandardJavaFileManager files = javac.getStandardFileManager(null, null, null)) {
            JavacTask task = (JavacTask) javac.getTask(null, files, null, null, null, files.getJavaFileObjects(SOURCE));
            for (CompilationUnitTree unit : task.parse()) {
                is("no package", unit.getPackageName() == null);
                is("one class", unit.getTypeDecls().size() == 1);
                for (ImportTree i : unit.getImports()) {
                    is("rule 4: " + i, Set.of("java.util.Arrays", "java.util.ArrayList", "java.util.List")
                            .contains(i.getQualifiedIdentifier().toString()));
                }
                new Rules().scan(unit, null);
            }
        }
    }

    private static final class Rules extends TreeScanner<Void, Void> {
        private final Set<String> face = new TreeSet<>();
        private final List<String> own = new ArrayList<>();

        @Override
        public Void scan(Tree tree, Void v) {
            if (tree != null && NEVER.contains(tree.getKind())) {
                is("rules 2, 6: " + tree.getKind() + " " + tree, false);
            }
            return super.scan(tree, v);
        }

        @Override
        public Void visitCompilationUnit(CompilationUnitTree unit, Void v) {
            super.visitCompilationUnit(unit, v);
            for (String name : own) {
                is("rule 1: another name than a public one for " + name, !face.contains(name));
            }
            return null;
        }

        @Override
        public Void visitClass(ClassTree type, Void v) {
            int fields = 0;
            for (Tree member : type.getMembers()) {
                is("rule 5: no initialiser block", !(member instanceof BlockTree));
                if (member instanceof VariableTree field) {
                    Set<javax.lang.model.element.Modifier> flags = field.getModifiers().getFlags();
                    boolean isStatic = flags.contains(javax.lang.model.element.Modifier.STATIC);
                    is("rule 5: final " + field.getName(),
                            !isStatic || flags.contains(javax.lang.model.element.Modifier.FINAL));
                    fields += isStatic ? 0 : 1;
                }
            }
            is("rule 11: some twenty fields of " + type.getSimpleName(), fields <= 20);
            return super.visitClass(type, v);
        }

        @Override
        public Void visitMethod(MethodTree method, Void v) {
            String name = method.getName().toString();
            boolean isPublic = method.getModifiers().getFlags().contains(javax.lang.model.element.Modifier.PUBLIC);
            if (!name.equals("<init>")) {
                (isPublic ? face : own).add(name);
            }
            is("rule 11: seven parameters of " + name, method.getParameters().size() <= 7);
            is("rule 11: some sixty lines of " + name, method.toString().lines().count() <= 60);
            return super.visitMethod(method, v);
        }

        @Override
        public Void visitMemberSelect(MemberSelectTree select, Void v) {
            Set<String> known = LIBRARY.get(select.getExpression().toString());
            if (known != null) {
                is("rule 4: " + select, known.contains(select.getIdentifier().toString()));
            }
            return super.visitMemberSelect(select, v);
        }

        @Override
        public Void visitNewClass(NewClassTree made, Void v) {
            is("rule 2: no class without a name", made.getClassBody() == null);
            return super.visitNewClass(made, v);
        }

        @Override
        public Void visitPrimitiveType(PrimitiveTypeTree type, Void v) {
            is("rule 3: " + type, !Arrays.asList("double", "float").contains(type.toString()));
            return super.visitPrimitiveType(type, v);
        }
    }
}
