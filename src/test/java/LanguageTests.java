import com.sun.source.tree.*;
import com.sun.source.util.*;
import java.lang.reflect.Constructor;
import java.lang.reflect.Method;
import java.lang.reflect.Modifier;
import java.nio.file.Files;
import java.nio.file.Path;
import java.util.*;
import java.util.regex.Matcher;
import java.util.regex.Pattern;
import java.util.stream.Collectors;
import javax.lang.model.element.Element;
import javax.lang.model.element.ElementKind;
import javax.lang.model.element.ExecutableElement;
import javax.lang.model.element.TypeElement;
import javax.lang.model.type.TypeKind;
import javax.tools.JavaCompiler;
import javax.tools.ToolProvider;

/** The program against ../shared/LANGUAGE.md, as far as a program can see it, and its face against ../shared/DOC.md. */
public final class LanguageTests {
  private static final Path PROGRAM = Path.of("src/main/java/RubatoDesk.java");
  private static final Path DOCUMENT = Path.of("../shared/DOC.md");
  private static final Map<String, Set<String>> LIBRARY = Map.of(
      "java.lang.String", Set.of("length", "charAt", "isEmpty", "equals", "indexOf", "substring", "toCharArray"),
      "java.lang.Math", Set.of("max", "min", "abs", "floorDiv", "floorMod"),
      "java.lang.Integer", Set.of("bitCount", "compare", "max", "min"),
      "java.lang.Long", Set.of("bitCount", "compare", "max", "min"),
      "java.lang.System", Set.of("arraycopy"),
      "java.util.Arrays", Set.of("fill", "copyOf", "copyOfRange"));
  private static final Set<Tree.Kind> BARRED = EnumSet.of(Tree.Kind.THROW, Tree.Kind.TRY, Tree.Kind.SYNCHRONIZED, Tree.Kind.ASSERT,
      Tree.Kind.LAMBDA_EXPRESSION, Tree.Kind.MEMBER_REFERENCE, Tree.Kind.SWITCH_EXPRESSION, Tree.Kind.PACKAGE);
  private static int wrong = 0;

  private static void fail(String what) { wrong++; System.out.println(what); }

  public static void main(String[] args) throws Exception {
    face();
    String source = Files.readString(PROGRAM);
    for (int i = 0; i < source.length(); i++) if (source.charAt(i) > 126) fail("a sign above 126 at " + i);
    JavaCompiler compiler = ToolProvider.getSystemJavaCompiler();
    var files = compiler.getStandardFileManager(null, null, null);
    JavacTask task = (JavacTask) compiler.getTask(null, files, null, List.of("-proc:none"), null, files.getJavaFileObjects(PROGRAM));
    CompilationUnitTree unit = task.parse().iterator().next();
    task.analyze();
    Look look = new Look(task, unit);
    look.scan(unit, null);
    look.finish();
    System.out.println(wrong == 0 ? "the program keeps to what can be seen of the language" : wrong + " places are outside the language");
    if (wrong != 0) System.exit(1);
  }

  private static void face() throws Exception {
    String doc = Files.readString(DOCUMENT);
    Matcher m = Pattern.compile("(?m)^    public (int|long) (\\w+)\\(([^)]*)\\);").matcher(doc);
    Set<String> due = new TreeSet<>(), got = new TreeSet<>();
    while (m.find()) {
      String types = Arrays.stream(m.group(3).split(",")).map(s -> s.trim().split(" ")[0]).collect(Collectors.joining(","));
      due.add(m.group(1) + " " + m.group(2) + "(" + types + ")");
    }
    for (Method x : RubatoDesk.class.getDeclaredMethods()) {
      if (!Modifier.isPrivate(x.getModifiers())) {
        got.add(x.getReturnType() + " " + x.getName() + "(" + Arrays.stream(x.getParameterTypes()).map(Class::getName).collect(Collectors.joining(",")) + ")");
      }
    }
    if (due.size() != 39) fail("the document's face has " + due.size() + " methods");
    if (!due.equals(got)) fail("the face is " + got + ", due is " + due);
    for (Constructor<?> c : RubatoDesk.class.getDeclaredConstructors()) if (c.getParameterCount() != 0) fail("a constructor more");
    for (var f : RubatoDesk.class.getDeclaredFields()) {
      if (!Modifier.isPrivate(f.getModifiers()) && !f.getName().equals("NONE")) fail("the field " + f.getName() + " can be seen");
    }
    if (RubatoDesk.NONE != -1 || !Modifier.isFinal(RubatoDesk.class.getModifiers())) fail("NONE or final");
  }

  private static final class Look extends TreePathScanner<Void, Void> {
    final Trees trees;
    final CompilationUnitTree unit;
    final Map<String, Set<String>> calls = new TreeMap<>();
    final Deque<String> inside = new ArrayDeque<>();
    final Set<String> publics = new HashSet<>(), others = new HashSet<>();
    int classes = 0;

    Look(JavacTask task, CompilationUnitTree unit) { trees = Trees.instance(task); this.unit = unit; }

    long line(Tree t) { return unit.getLineMap().getLineNumber(trees.getSourcePositions().getStartPosition(unit, t)); }
    long lastLine(Tree t) { return unit.getLineMap().getLineNumber(trees.getSourcePositions().getEndPosition(unit, t)); }
    void fail(Tree t, String what) { LanguageTests.fail("line " + line(t) + ": " + what); }

    @Override public Void scan(Tree t, Void v) {
      if (t != null && BARRED.contains(t.getKind())) fail(t, t.getKind() + " is not of the language");
      return super.scan(t, v);
    }

    @Override public Void visitImport(ImportTree t, Void v) {
      if (!Set.of("java.util.Arrays", "java.util.ArrayList", "java.util.List").contains(t.getQualifiedIdentifier().toString())) fail(t, "import");
      return super.visitImport(t, v);
    }

    @Override public Void visitClass(ClassTree t, Void v) {
      classes++;
      var flags = t.getModifiers().getFlags();
      boolean nested = getCurrentPath().getParentPath().getLeaf() instanceof ClassTree;
      if (nested && !flags.contains(javax.lang.model.element.Modifier.STATIC)) fail(t, "a class inside that isn't static");
      if (!nested && getCurrentPath().getParentPath().getLeaf() != unit) fail(t, "a local class");
      int fields = 0;
      for (Tree member : t.getMembers()) {
        if (member.getKind() == Tree.Kind.BLOCK) fail(member, "an initialiser block");
        if (member instanceof VariableTree f) {
          var m = f.getModifiers().getFlags();
          boolean isStatic = m.contains(javax.lang.model.element.Modifier.STATIC);
          if (isStatic && !m.contains(javax.lang.model.element.Modifier.FINAL)) fail(f, "static state");
          if (!isStatic) fields++;
        }
      }
      if (fields > 20) fail(t, fields + " fields");
      return super.visitClass(t, v);
    }

    @Override public Void visitMethod(MethodTree t, Void v) {
      ExecutableElement e = (ExecutableElement) trees.getElement(getCurrentPath());
      if (t.getParameters().size() > 7) fail(t, "more than seven parameters");
      long lines = lastLine(t) - line(t) + 1;
      if (lines > 60) fail(t, "a method of " + lines + " lines");
      if (!t.getName().contentEquals("<init>")) {
        (e.getModifiers().contains(javax.lang.model.element.Modifier.PUBLIC) ? publics : others).add(t.getName().toString());
      }
      inside.push(name(e));
      calls.computeIfAbsent(name(e), k -> new TreeSet<>());
      super.visitMethod(t, v);
      inside.pop();
      return null;
    }

    static String name(ExecutableElement e) { return ((TypeElement) e.getEnclosingElement()).getQualifiedName() + "." + e.getSimpleName(); }

    private void called(Tree t, Element e) {
      if (!(e instanceof ExecutableElement x)) return;
      String owner = ((TypeElement) x.getEnclosingElement()).getQualifiedName().toString();
      if (owner.startsWith("RubatoDesk")) {
        if (!inside.isEmpty()) calls.get(inside.peek()).add(name(x));
      } else if (x.getKind() == ElementKind.METHOD
          && !LIBRARY.getOrDefault(owner, Set.of()).contains(x.getSimpleName().toString())) {
        fail(t, owner + "." + x.getSimpleName() + " is not of the library");
      }
    }

    @Override public Void visitMethodInvocation(MethodInvocationTree t, Void v) {
      called(t, trees.getElement(getCurrentPath()));
      return super.visitMethodInvocation(t, v);
    }

    @Override public Void visitNewClass(NewClassTree t, Void v) {
      if (t.getClassBody() != null) fail(t, "an anonymous class");
      called(t, trees.getElement(getCurrentPath()));
      return super.visitNewClass(t, v);
    }

    @Override public Void visitBinary(BinaryTree t, Void v) {
      var type = trees.getTypeMirror(getCurrentPath());
      if (t.getKind() == Tree.Kind.PLUS && type != null && type.getKind() == TypeKind.DECLARED) fail(t, "texts joined by +");
      return super.visitBinary(t, v);
    }

    @Override public Void visitWhileLoop(WhileLoopTree t, Void v) {
      if (!t.getCondition().toString().contains("<")) fail(t, "a loop whose end can't be seen");
      return super.visitWhileLoop(t, v);
    }

    @Override public Void visitForLoop(ForLoopTree t, Void v) {
      if (t.getCondition() == null || t.getUpdate().isEmpty()) fail(t, "a loop whose end can't be seen");
      return super.visitForLoop(t, v);
    }

    void finish() {
      if (classes > 12) LanguageTests.fail(classes + " classes");
      for (String n : others) if (publics.contains(n)) LanguageTests.fail("a method that is not public bears the name " + n);
      List<Set<String>> rings = rings();
      Map<String, Integer> depth = new HashMap<>();
      for (String m : calls.keySet()) {
        int d = depth(m, rings, depth);
        if (d > 8) LanguageTests.fail(m + " goes " + d + " calls deep");
      }
    }

    /** Methods that call one another count as one level: what is no recursion is counted between them. */
    private int depth(String m, List<Set<String>> rings, Map<String, Integer> known) {
      if (known.containsKey(m)) return known.get(m);
      Set<String> ring = rings.stream().filter(r -> r.contains(m)).findFirst().orElseThrow();
      int most = 0;
      for (String x : ring) for (String y : calls.getOrDefault(x, Set.of())) if (!ring.contains(y)) most = Math.max(most, depth(y, rings, known));
      known.put(m, most + 1);
      return most + 1;
    }

    private List<Set<String>> rings() {
      Map<String, Set<String>> reach = new HashMap<>();
      Set<String> all = new TreeSet<>(calls.keySet());
      calls.values().forEach(all::addAll);
      for (String m : all) {
        Set<String> seen = new TreeSet<>();
        Deque<String> todo = new ArrayDeque<>(calls.getOrDefault(m, Set.of()));
        while (!todo.isEmpty()) { String x = todo.pop(); if (seen.add(x)) todo.addAll(calls.getOrDefault(x, Set.of())); }
        reach.put(m, seen);
      }
      List<Set<String>> out = new ArrayList<>();
      for (String m : all) {
        Set<String> ring = new TreeSet<>(Set.of(m));
        for (String x : all) if (reach.get(m).contains(x) && reach.get(x).contains(m)) ring.add(x);
        out.add(ring);
      }
      return out;
    }
  }
}
