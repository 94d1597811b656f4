import com.sun.source.tree.*;
import com.sun.source.util.JavacTask;
import com.sun.source.util.TreePath;
import com.sun.source.util.TreePathScanner;
import com.sun.source.util.Trees;
import java.nio.file.Files;
import java.nio.file.Path;
import java.util.ArrayDeque;
import java.util.Deque;
import java.util.EnumSet;
import java.util.HashMap;
import java.util.List;
import java.util.Map;
import java.util.Set;
import java.util.TreeMap;
import java.util.TreeSet;
import javax.lang.model.element.Element;
import javax.lang.model.element.ElementKind;
import javax.lang.model.element.ExecutableElement;
import javax.lang.model.element.Modifier;
import javax.lang.model.element.TypeElement;
import javax.lang.model.type.ArrayType;
import javax.lang.model.type.DeclaredType;
import javax.lang.model.type.TypeKind;
import javax.lang.model.type.TypeMirror;
import javax.tools.JavaCompiler;
import javax.tools.JavaFileObject;
import javax.tools.StandardJavaFileManager;
import javax.tools.ToolProvider;

/** The class keeps to ../shared/LANGUAGE.md, as far as the compiler's own tree of it tells. */
public final class LanguageTest extends TreePathScanner<Void, Void> {
  private static final Path CLASS = Path.of("src/main/java/DutyBeats.java");

  /** Rule 4, so far as the class may ever want it. */
  private static final Set<String> LIBRARY = Set.of(
      "String.length", "String.charAt", "String.isEmpty", "String.equals", "String.indexOf", "String.substring", "String.toCharArray",
      "Integer.compare", "Integer.max", "Integer.min", "Integer.bitCount", "Integer.numberOfTrailingZeros",
      "Long.compare", "Long.max", "Long.min", "Long.bitCount",
      "Math.max", "Math.min", "Math.abs", "Math.floorDiv", "Math.floorMod",
      "System.arraycopy", "Arrays.copyOf", "Arrays.copyOfRange", "Arrays.fill", "Object.<init>");

  /** Rules 2 and 6. */
  private static final Set<Tree.Kind> NEVER = EnumSet.of(Tree.Kind.THROW, Tree.Kind.TRY, Tree.Kind.CATCH, Tree.Kind.SYNCHRONIZED,
      Tree.Kind.ASSERT, Tree.Kind.LAMBDA_EXPRESSION, Tree.Kind.MEMBER_REFERENCE, Tree.Kind.ANNOTATION, Tree.Kind.YIELD,
      Tree.Kind.DOUBLE_LITERAL, Tree.Kind.FLOAT_LITERAL);

  private static final int MOST_LINES = 60;
  private static final int MOST_PARAMETERS = 7;
  private static final int MOST_CLASSES = 12;
  private static final int MOST_FIELDS = 20;
  private static final int MOST_CALLS_DEEP = 8;

  private final Trees trees;
  private final CompilationUnitTree unit;
  private final Map<String, Set<String>> calls = new TreeMap<>();
  private final Map<String, Integer> fields = new HashMap<>();
  private final Deque<String> within = new ArrayDeque<>();
  private int classes = 0;
  private int seen = 0;
  private int wrong = 0;

  private LanguageTest(Trees trees, CompilationUnitTree unit) {
    this.trees = trees;
    this.unit = unit;
  }

  private void see(boolean right, int rule, Tree at, String what) {
    seen++;
    if (right) return;
    wrong++;
    System.out.println("rule " + rule + ", line " + line(trees.getSourcePositions().getStartPosition(unit, at)) + ": " + what);
  }
  private long line(long place) { return unit.getLineMap().getLineNumber(Math.max(0, place)); }
  private boolean isOwn(Element e) {
    Element top = e;
    while (top != null && top.getEnclosingElement() != null && top.getEnclosingElement().getKind() != ElementKind.PACKAGE) top = top.getEnclosingElement();
    return top != null && top.getSimpleName().contentEquals("DutyBeats");
  }
  private static String name(Element e) { return e.getEnclosingElement().getSimpleName() + "." + e.getSimpleName(); }

  @Override public Void scan(Tree tree, Void none) {
    if (tree != null) see(!NEVER.contains(tree.getKind()), 6, tree, tree.getKind() + " stands in it");
    return super.scan(tree, none);
  }
  @Override public Void visitImport(ImportTree tree, Void none) {
    see(tree.getQualifiedIdentifier().toString().equals("java.util.Arrays"), 4, tree, "import of " + tree.getQualifiedIdentifier());
    return null;
  }
  @Override public Void visitClass(ClassTree tree, Void none) {
    classes++;
    TypeElement made = (TypeElement) trees.getElement(getCurrentPath());
    Set<Modifier> flags = made.getModifiers();
    boolean outer = made.getEnclosingElement().getKind() == ElementKind.PACKAGE;
    see(outer || flags.contains(Modifier.STATIC) && !flags.contains(Modifier.PUBLIC) && !flags.contains(Modifier.PROTECTED), 2, tree,
        made + " is static and not seen from outside");
    return super.visitClass(tree, none);
  }
  @Override public Void visitBlock(BlockTree tree, Void none) {
    see(!tree.isStatic(), 5, tree, "a static block");
    return super.visitBlock(tree, none);
  }
  @Override public Void visitVariable(VariableTree tree, Void none) {
    Element made = trees.getElement(getCurrentPath());
    see(isFineType(made.asType(), 2), 3, tree, tree.getName() + " is of " + made.asType());
    if (made.getKind() == ElementKind.FIELD) seeField(tree, made);
    return super.visitVariable(tree, none);
  }
  private void seeField(VariableTree tree, Element made) {
    if (!made.getModifiers().contains(Modifier.STATIC)) {
      fields.merge(made.getEnclosingElement().toString(), 1, Integer::sum);
      return;
    }
    see(made.getModifiers().contains(Modifier.FINAL), 5, tree, tree.getName() + " is static and not final");
    TypeMirror type = made.asType();
    boolean written = type.getKind() == TypeKind.ARRAY && tree.getInitializer() instanceof NewArrayTree a && a.getInitializers() != null;
    see(type.getKind().isPrimitive() || type.toString().equals("java.lang.String") || written, 5, tree, tree.getName() + " is no constant");
  }
  /** Numbers, texts and own classes; rows of these, and rows of rows of numbers. */
  private boolean isFineType(TypeMirror type, int deep) {
    if (type instanceof ArrayType a) {
      boolean rows = a.getComponentType().getKind() == TypeKind.ARRAY;
      return deep > 0 && isFineType(a.getComponentType(), deep - 1) && (!rows || ((ArrayType) a.getComponentType()).getComponentType().getKind().isPrimitive());
    }
    if (type instanceof DeclaredType d) return type.toString().equals("java.lang.String") || isOwn(d.asElement());
    return type.getKind().isPrimitive() && type.getKind() != TypeKind.DOUBLE && type.getKind() != TypeKind.FLOAT;
  }

  @Override public Void visitMethod(MethodTree tree, Void none) {
    Element made = trees.getElement(getCurrentPath());
    see(tree.getParameters().size() <= MOST_PARAMETERS, 11, tree, tree.getName() + " takes too many");
    see(tree.getThrows().isEmpty(), 6, tree, tree.getName() + " throws");
    if (tree.getBody() != null) {
      long lines = line(trees.getSourcePositions().getEndPosition(unit, tree)) - line(trees.getSourcePositions().getStartPosition(unit, tree)) + 1;
      see(lines <= MOST_LINES, 11, tree, tree.getName() + " has " + lines + " lines");
    }
    calls.computeIfAbsent(name(made), k -> new TreeSet<>());
    within.push(name(made));
    super.visitMethod(tree, none);
    within.pop();
    return null;
  }
  @Override public Void visitMethodInvocation(MethodInvocationTree tree, Void none) {
    called(tree, trees.getElement(new TreePath(getCurrentPath(), tree.getMethodSelect())));
    return super.visitMethodInvocation(tree, none);
  }
  @Override public Void visitNewClass(NewClassTree tree, Void none) {
    see(tree.getClassBody() == null, 2, tree, "a class without a name");
    called(tree, trees.getElement(getCurrentPath()));
    return super.visitNewClass(tree, none);
  }
  private void called(Tree tree, Element target) {
    if (target instanceof ExecutableElement && isOwn(target)) {
      if (!within.isEmpty()) calls.get(within.peek()).add(name(target));
    } else {
      see(target != null && LIBRARY.contains(name(target)), 4, tree, "the library's " + target);
    }
  }
  @Override public Void visitBinary(BinaryTree tree, Void none) {
    boolean text = isText(tree.getLeftOperand()) || isText(tree.getRightOperand());
    see(!text, 10, tree, "texts joined by a sign, or compared by one");
    return super.visitBinary(tree, none);
  }
  @Override public Void visitMemberSelect(MemberSelectTree tree, Void none) {
    Element e = trees.getElement(getCurrentPath());
    boolean length = tree.getIdentifier().contentEquals("length");
    see(e == null || e.getKind() != ElementKind.FIELD || isOwn(e) || length, 4, tree, "the library's field " + tree);
    return super.visitMemberSelect(tree, none);
  }
  private boolean isText(Tree tree) {
    TypeMirror type = trees.getTypeMirror(new TreePath(getCurrentPath(), tree));
    return type != null && type.toString().equals("java.lang.String");
  }
  @Override public Void visitLiteral(LiteralTree tree, Void none) {
    if (tree.getValue() instanceof String s) see(s.chars().allMatch(c -> c >= 1 && c <= 127), 4, tree, "a sign of a text");
    return null;
  }

  // ---- how deep calls go: those that call one another round are one recursion, and one step

  private boolean reaches(String from, String to, Set<String> been) {
    for (String next : callsOf(from)) {
      if (next.equals(to) || been.add(next) && reaches(next, to, been)) return true;
    }
    return false;
  }
  /** A call of an abstract method goes to what implements it. */
  private Set<String> callsOf(String method) {
    Set<String> all = new TreeSet<>(calls.getOrDefault(method, Set.of()));
    if (method.equals("Text.readClause")) all.addAll(Set.of("JunctionText.readClause", "RuleText.readClause"));
    return all;
  }
  private int deep(String method, Set<String> open) {
    int most = 0;
    for (String next : callsOf(method)) {
      if (open.contains(next)) continue;
      Set<String> now = new TreeSet<>(open);
      now.add(next);
      most = Math.max(most, deep(next, now));
    }
    return most + (method.equals("Text.readClause") ? 0 : 1);
  }
  private void seeCalls() {
    for (String method : calls.keySet()) {
      int deep = deep(method, Set.of(method));
      see(deep <= MOST_CALLS_DEEP, 11, unit, method + " calls " + deep + " deep");
      if (reaches(method, method, new TreeSet<>())) {
        see(List.of("DutyBeats.share", "RuleText.readTest", "RuleText.readFact", "RowSearch.choose").contains(method), 8, unit,
            method + " calls itself: does it carry its depth? Then let it stand here");
      }
    }
  }
  private void seeWhole() {
    see(unit.getPackageName() == null, 1, unit, "a package line");
    see(classes <= MOST_CLASSES, 11, unit, classes + " classes");
    fields.forEach((owner, many) -> see(many <= MOST_FIELDS, 11, unit, owner + " has " + many + " fields"));
    seeCalls();
  }

  private static LanguageTest read() throws Exception {
    JavaCompiler compiler = ToolProvider.getSystemJavaCompiler();
    if (compiler == null) throw new IllegalStateException("there is no compiler beside this java");
    try (StandardJavaFileManager files = compiler.getStandardFileManager(null, null, null)) {
      Iterable<? extends JavaFileObject> source = files.getJavaFileObjects(CLASS);
      JavacTask task = (JavacTask) compiler.getTask(null, files, null, List.of("-proc:none"), null, source);
      CompilationUnitTree unit = task.parse().iterator().next();
      task.analyze();
      LanguageTest test = new LanguageTest(Trees.instance(task), unit);
      test.scan(unit, null);
      test.seeWhole();
      return test;
    }
  }

  public static void main(String[] args) throws Exception {
    LanguageTest test = read();
    String text = Files.readString(CLASS);
    test.see(text.chars().allMatch(c -> c < 128 && c != '\t'), 3, test.unit, "a sign beyond 127, or a tab");
    System.out.println("LanguageTest: " + test.seen + " seen, " + test.wrong + " wrong");
    if (test.wrong != 0) System.exit(1);
  }
}
