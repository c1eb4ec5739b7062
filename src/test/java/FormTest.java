import com.sun.source.tree.AnnotationTree;
import com.sun.source.tree.AssertTree;
import com.sun.source.tree.BinaryTree;
import com.sun.source.tree.BlockTree;
import com.sun.source.tree.ClassTree;
import com.sun.source.tree.CompilationUnitTree;
import com.sun.source.tree.ImportTree;
import com.sun.source.tree.InstanceOfTree;
import com.sun.source.tree.LambdaExpressionTree;
import com.sun.source.tree.MemberReferenceTree;
import com.sun.source.tree.MethodInvocationTree;
import com.sun.source.tree.MethodTree;
import com.sun.source.tree.NewArrayTree;
import com.sun.source.tree.NewClassTree;
import com.sun.source.tree.SynchronizedTree;
import com.sun.source.tree.ThrowTree;
import com.sun.source.tree.Tree;
import com.sun.source.tree.TryTree;
import com.sun.source.tree.VariableTree;
import com.sun.source.util.JavacTask;
import com.sun.source.util.TreePath;
import com.sun.source.util.TreePathScanner;
import com.sun.source.util.Trees;
import java.lang.reflect.Constructor;
import java.lang.reflect.Executable;
import java.lang.reflect.Method;
import java.lang.reflect.Modifier;
import java.nio.file.Files;
import java.nio.file.Path;
import java.util.ArrayList;
import java.util.HashMap;
import java.util.HashSet;
import java.util.List;
import java.util.Map;
import java.util.Set;
import java.util.TreeSet;
import javax.lang.model.element.Element;
import javax.lang.model.element.TypeElement;
import javax.tools.JavaCompiler;
import javax.tools.StandardJavaFileManager;
import javax.tools.ToolProvider;

/** The rules of ../shared/LANGUAGE.md that can be told from the source, and the document's face. */
public final class FormTest extends TreePathScanner<Void, Void> {
  private static final Path SOURCE = Path.of("src/main/java/Valleyfree.java");
  private static final Path DOCUMENT = Path.of("../shared/DOC.md");
  private static final Set<String> IMPORTS =
      Set.of("java.util.Arrays", "java.util.NoSuchElementException");
  private static final Set<String> LIBRARY = Set.of("java.util.Arrays.fill",
      "java.lang.Integer.bitCount", "java.lang.Integer.compare", "java.lang.Math.max",
      "java.lang.Math.min");
  private static final Set<String> EXCEPTIONS = Set.of("IllegalStateException",
      "IllegalArgumentException", "IndexOutOfBoundsException", "UnsupportedOperationException",
      "NoSuchElementException");
  private static final Set<String> FACE_NAMES = new TreeSet<>();

  private final Trees trees;
  private final CompilationUnitTree unit;
  private final Map<Element, Set<Element>> calls = new HashMap<>();
  private int faults = 0;
  private int classes = 0;
  private int deepest = 0;

  private FormTest(Trees trees, CompilationUnitTree unit) {
    this.trees = trees;
    this.unit = unit;
  }

  public static void main(String[] args) throws Exception {
    for (Method method : Valleyfree.class.getDeclaredMethods()) {
      if (Modifier.isPublic(method.getModifiers())) {
        FACE_NAMES.add(method.getName());
      }
    }
    JavaCompiler compiler = ToolProvider.getSystemJavaCompiler();
    StandardJavaFileManager files = compiler.getStandardFileManager(null, null, null);
    JavacTask task = (JavacTask) compiler.getTask(null, files, null, List.of("-proc:none"), null,
        files.getJavaFileObjects(SOURCE));
    CompilationUnitTree unit = task.parse().iterator().next();
    task.analyze();
    FormTest test = new FormTest(Trees.instance(task), unit);
    test.checkFace();
    test.checkText();
    test.scan(unit, null);
    test.check(test.classes <= 12, unit, "rule 11: more than twelve classes");
    test.checkDepth();
    System.out.println("form: calls go " + test.deepest + " deep, " + test.faults + " faults");
    if (test.faults > 0) {
      System.exit(1);
    }
  }

  private void check(boolean holds, Tree where, String what) {
    if (!holds) {
      faults++;
      long at = trees.getSourcePositions().getStartPosition(unit, where);
      System.out.println("line " + unit.getLineMap().getLineNumber(Math.max(0, at)) + ": " + what);
    }
  }

  // Rule 1

  private void checkFace() throws Exception {
    Set<String> due = new TreeSet<>();
    for (String line : Files.readAllLines(DOCUMENT)) {
      if (line.startsWith("    public ")) {
        due.add(plain(line.strip()));
      }
    }
    Set<String> got = new TreeSet<>();
    for (Method method : Valleyfree.class.getDeclaredMethods()) {
      if (!Modifier.isPrivate(method.getModifiers())) {
        got.add("public " + method.getReturnType() + " " + told(method.getName(), method));
      }
    }
    for (Constructor<?> constructor : Valleyfree.class.getDeclaredConstructors()) {
      got.add("public " + told("Valleyfree", constructor));
    }
    check(due.size() == 50, unit, "the document's face is not read right: " + due);
    check(got.equals(due), unit, "rule 1: the face is " + got + ", due is " + due);
    check(Modifier.isFinal(Valleyfree.class.getModifiers()), unit, "rule 1: not final");
  }

  private static String plain(String line) {
    int close = line.indexOf(')') + 1;
    return line.substring(0, close).replaceAll("(\\w+) \\w+([,)])", "$1$2")
        + line.substring(close).replace(";", "");
  }

  private static String told(String name, Executable executable) {
    StringBuilder text = new StringBuilder(name).append('(');
    String between = "";
    for (Class<?> type : executable.getParameterTypes()) {
      text.append(between).append(type.getSimpleName());
      between = ", ";
    }
    text.append(')');
    between = " throws ";
    for (Class<?> type : executable.getExceptionTypes()) {
      text.append(between).append(type.getSimpleName());
      between = ", ";
    }
    return text.toString();
  }

  private void checkText() throws Exception {
    for (char sign : Files.readString(SOURCE).toCharArray()) {
      check(sign < 128, unit, "rule 4: a sign that is no plain one");
    }
  }

  // What a rule leaves out altogether

  @Override
  public Void visitImport(ImportTree tree, Void unused) {
    check(IMPORTS.contains(tree.getQualifiedIdentifier().toString()), tree, "rule 4: import");
    return super.visitImport(tree, unused);
  }

  @Override
  public Void visitLambdaExpression(LambdaExpressionTree tree, Void unused) {
    check(false, tree, "rule 2: lambda");
    return null;
  }

  @Override
  public Void visitMemberReference(MemberReferenceTree tree, Void unused) {
    check(false, tree, "rule 2: method reference");
    return null;
  }

  @Override
  public Void visitSynchronized(SynchronizedTree tree, Void unused) {
    check(false, tree, "rule 6: synchronized");
    return null;
  }

  @Override
  public Void visitAssert(AssertTree tree, Void unused) {
    check(false, tree, "rule 6: assert");
    return null;
  }

  @Override
  public Void visitTry(TryTree tree, Void unused) {
    check(false, tree, "this program needs no try");
    return null;
  }

  @Override
  public Void visitInstanceOf(InstanceOfTree tree, Void unused) {
    check(false, tree, "this program needs no instanceof");
    return null;
  }

  @Override
  public Void visitAnnotation(AnnotationTree tree, Void unused) {
    check(false, tree, "this program needs no annotation");
    return null;
  }

  @Override
  public Void visitBinary(BinaryTree tree, Void unused) {
    boolean isText = tree.getKind() == Tree.Kind.PLUS
        && trees.getTypeMirror(getCurrentPath()).toString().equals("java.lang.String");
    check(!isText, tree, "rule 10: texts joined by +");
    return super.visitBinary(tree, unused);
  }

  // Classes, fields and methods

  @Override
  public Void visitClass(ClassTree tree, Void unused) {
    classes++;
    Set<javax.lang.model.element.Modifier> modifiers = tree.getModifiers().getFlags();
    boolean isOuter = getCurrentPath().getParentPath().getLeaf() == unit;
    check(isOuter || modifiers.contains(javax.lang.model.element.Modifier.STATIC), tree,
        "rule 1: a class inside that is not static");
    int fields = 0;
    for (Tree member : tree.getMembers()) {
      if (member instanceof VariableTree field) {
        fields += isStatic(field) ? 0 : 1;
        checkStatic(field);
      }
      check(!(member instanceof BlockTree), member, "rule 5: initialiser block");
    }
    check(fields <= 20, tree, "rule 11: more than twenty fields");
    return super.visitClass(tree, unused);
  }

  private static boolean isStatic(VariableTree field) {
    return field.getModifiers().getFlags().contains(javax.lang.model.element.Modifier.STATIC);
  }

  private void checkStatic(VariableTree field) {
    boolean isFinal =
        field.getModifiers().getFlags().contains(javax.lang.model.element.Modifier.FINAL);
    boolean isPlain = Set.of("int", "long", "char", "boolean", "String")
        .contains(field.getType().toString());
    check(!isStatic(field) || (isFinal && isPlain), field, "rule 5: static field");
  }

  @Override
  public Void visitMethod(MethodTree tree, Void unused) {
    long start = trees.getSourcePositions().getStartPosition(unit, tree);
    long end = trees.getSourcePositions().getEndPosition(unit, tree);
    if (end >= 0) {
      long lines = unit.getLineMap().getLineNumber(end) - unit.getLineMap().getLineNumber(start);
      check(lines < 60, tree, "rule 11: a long method");
    }
    check(tree.getParameters().size() <= 7, tree, "rule 11: more than seven parameters");
    boolean isOfFace = tree.getModifiers().getFlags()
        .contains(javax.lang.model.element.Modifier.PUBLIC);
    check(isOfFace || !FACE_NAMES.contains(tree.getName().toString()), tree,
        "rule 1: a method inside bears the name of a public one");
    return super.visitMethod(tree, unused);
  }

  // What is made, and what is called

  @Override
  public Void visitNewClass(NewClassTree tree, Void unused) {
    Tree parent = getCurrentPath().getParentPath().getLeaf();
    boolean isThrown = parent instanceof ThrowTree;
    check(isThrown ? EXCEPTIONS.contains(tree.getIdentifier().toString()) : isOnceMade(), tree,
        "rules 6 and 12: an object made in a call");
    return super.visitNewClass(tree, unused);
  }

  @Override
  public Void visitNewArray(NewArrayTree tree, Void unused) {
    check(isOnceMade(), tree, "rule 12: an array made in a call");
    return super.visitNewArray(tree, unused);
  }

  /** Whether the place is the first value of a field. */
  private boolean isOnceMade() {
    TreePath parent = getCurrentPath().getParentPath();
    return parent.getLeaf() instanceof VariableTree
        && parent.getParentPath().getLeaf() instanceof ClassTree;
  }

  @Override
  public Void visitMethodInvocation(MethodInvocationTree tree, Void unused) {
    Element called = trees.getElement(getCurrentPath());
    TypeElement owner = (TypeElement) called.getEnclosingElement();
    String name = owner.getQualifiedName() + "." + called.getSimpleName();
    boolean isOwn = owner.getQualifiedName().toString().startsWith("Valleyfree");
    boolean isSuper = called.getSimpleName().contentEquals("<init>");
    boolean isCopy = name.endsWith(".clone");
    check(isOwn || isSuper || isCopy || LIBRARY.contains(name), tree, "rule 4: call of " + name);
    if (isOwn) {
      noteCall(tree, called);
    }
    return super.visitMethodInvocation(tree, unused);
  }

  private void noteCall(Tree where, Element called) {
    TreePath path = getCurrentPath();
    while (path != null && !(path.getLeaf() instanceof MethodTree)) {
      path = path.getParentPath();
    }
    Element caller = path == null ? null : trees.getElement(path);
    boolean isInConstructor = caller == null || caller.getSimpleName().contentEquals("<init>");
    check(!isInConstructor, where, "rule 12: a call while an object is made");
    calls.computeIfAbsent(caller, key -> new HashSet<>()).add(called);
  }

  // Rules 8 and 11: no recursion, and at most eight calls deep

  private void checkDepth() {
    for (Element method : calls.keySet()) {
      walk(method, new ArrayList<>());
    }
  }

  private void walk(Element method, List<Element> above) {
    if (above.contains(method)) {
      check(false, unit, "rule 8: recursion at " + method);
      return;
    }
    above.add(method);
    if (above.size() > 8) {
      check(false, unit, "rule 11: calls too deep: " + above);
    } else {
      deepest = Math.max(deepest, above.size());
      for (Element called : calls.getOrDefault(method, Set.of())) {
        walk(called, above);
      }
    }
    above.remove(above.size() - 1);
  }
}
