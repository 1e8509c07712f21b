import com.sun.source.tree.BinaryTree;
import com.sun.source.tree.ClassTree;
import com.sun.source.tree.CompilationUnitTree;
import com.sun.source.tree.ImportTree;
import com.sun.source.tree.MethodInvocationTree;
import com.sun.source.tree.MethodTree;
import com.sun.source.tree.NewClassTree;
import com.sun.source.tree.Tree;
import com.sun.source.tree.VariableTree;
import com.sun.source.util.JavacTask;
import com.sun.source.util.TreePath;
import com.sun.source.util.TreePathScanner;
import com.sun.source.util.Trees;
import java.nio.file.Path;
import java.util.ArrayList;
import java.util.EnumSet;
import java.util.HashMap;
import java.util.HashSet;
import java.util.List;
import java.util.Map;
import java.util.Set;
import java.util.TreeSet;
import javax.lang.model.element.Element;
import javax.lang.model.element.ElementKind;
import javax.lang.model.element.Modifier;
import javax.tools.JavaCompiler;
import javax.tools.StandardJavaFileManager;
import javax.tools.ToolProvider;

/** What of LANGUAGE.md can be read off the source's tree; the number in a row is the rule's. */
public final class LanguageTest extends TreePathScanner<Void, Void> {
  private static final Set<String> LIBRARY = Set.of("java.lang.String.length", "java.lang.String.charAt", "java.lang.Integer.bitCount",
      "java.lang.Math.max", "java.lang.Math.min", "java.lang.System.arraycopy", "java.lang.Object.<init>",
      "java.util.NoSuchElementException.<init>");
  private static final Set<Tree.Kind> BARRED = EnumSet.of(Tree.Kind.LAMBDA_EXPRESSION, Tree.Kind.MEMBER_REFERENCE, Tree.Kind.TRY,
      Tree.Kind.SYNCHRONIZED, Tree.Kind.ASSERT, Tree.Kind.SWITCH_EXPRESSION);
  private final Check check = new Check("LanguageTest");
  private final Trees trees;
  private final CompilationUnitTree unit;
  private final Map<String, Set<String>> callees = new HashMap<>();
  private final Set<String> faceMethods = new TreeSet<>();
  private final List<String> otherMethods = new ArrayList<>();
  private String method = "";
  private int classes;

  private LanguageTest(Trees trees, CompilationUnitTree unit) {
    this.trees = trees;
    this.unit = unit;
  }

  private static String nameOf(Element e) {
    return e.getEnclosingElement() + "." + e.getSimpleName() + (e.getKind() == ElementKind.METHOD ? "/" + e.toString() : "");
  }

  private static boolean isOwn(Element e) {
    return e.getEnclosingElement().toString().startsWith("PromiseWeb");
  }

  private long line(long position) {
    return unit.getLineMap().getLineNumber(position);
  }

  @Override
  public Void scan(Tree tree, Void none) {
    if (tree != null) {
      Tree.Kind kind = tree.getKind();
      if (BARRED.contains(kind)) check.due("2, 6, 10: " + kind + " at line " + line(trees.getSourcePositions().getStartPosition(unit, tree)), true, false);
    }
    return super.scan(tree, none);
  }

  @Override
  public Void visitImport(ImportTree tree, Void none) {
    check.due("4: import " + tree.getQualifiedIdentifier(), tree.getQualifiedIdentifier().toString().equals("java.util.NoSuchElementException"), true);
    return super.visitImport(tree, none);
  }

  @Override
  public Void visitClass(ClassTree tree, Void none) {
    classes++;
    int fields = 0;
    for (Tree member : tree.getMembers()) {
      check.due("5: no initialiser block in " + tree.getSimpleName(), member.getKind() == Tree.Kind.BLOCK, false);
      if (member instanceof VariableTree field) {
        boolean fixed = field.getModifiers().getFlags().contains(Modifier.STATIC);
        if (fixed) checkStatic(field);
        else fields++;
      }
    }
    check.due("11: fields of " + tree.getSimpleName() + ": " + fields, fields <= 20, true);
    return super.visitClass(tree, none);
  }

  private void checkStatic(VariableTree field) {
    check.due("5: final " + field.getName(), field.getModifiers().getFlags().contains(Modifier.FINAL), true);
    String type = field.getType().toString();
    check.due("5: type of " + field.getName(), Set.of("int", "long", "boolean", "char", "String", "int[]", "long[]").contains(type), true);
  }

  @Override
  public Void visitMethod(MethodTree tree, Void none) {
    Element e = trees.getElement(getCurrentPath());
    String before = method;
    method = nameOf(e);
    callees.putIfAbsent(method, new HashSet<>());
    boolean face = e.getEnclosingElement().toString().equals("PromiseWeb") && e.getModifiers().contains(Modifier.PUBLIC);
    if (face) faceMethods.add(tree.getName().toString());
    else if (e.getKind() == ElementKind.METHOD) otherMethods.add(tree.getName().toString());
    long first = line(trees.getSourcePositions().getStartPosition(unit, tree));
    long last = line(Math.max(0, trees.getSourcePositions().getEndPosition(unit, tree)));
    check.due("11: lines of " + method, last - first < 60, true);
    check.due("11: parameters of " + method, tree.getParameters().size() <= 7, true);
    super.visitMethod(tree, none);
    method = before;
    return null;
  }

  private void called(Element e) {
    String name = nameOf(e);
    if (isOwn(e)) callees.computeIfAbsent(method, k -> new HashSet<>()).add(name);
    else check.due("4: " + name, LIBRARY.contains(e.getEnclosingElement() + "." + e.getSimpleName()), true);
  }

  @Override
  public Void visitMethodInvocation(MethodInvocationTree tree, Void none) {
    called(trees.getElement(new TreePath(getCurrentPath(), tree.getMethodSelect())));
    return super.visitMethodInvocation(tree, none);
  }

  @Override
  public Void visitNewClass(NewClassTree tree, Void none) {
    called(trees.getElement(getCurrentPath()));
    return super.visitNewClass(tree, none);
  }

  @Override
  public Void visitBinary(BinaryTree tree, Void none) {
    boolean text = trees.getTypeMirror(getCurrentPath()).toString().equals("java.lang.String");
    check.due("10: texts joined by +", text, false);
    return super.visitBinary(tree, none);
  }

  private int depth(String name, Set<String> open) {
    check.due("8: " + name + " calls itself", open.contains(name), false);
    if (open.contains(name)) return 1000;
    open.add(name);
    int deepest = 0;
    for (String callee : callees.getOrDefault(name, Set.of())) deepest = Math.max(deepest, depth(callee, open));
    open.remove(name);
    return deepest + 1;
  }

  private void finish() {
    check.due("11: classes: " + classes, classes <= 12, true);
    for (String name : otherMethods) check.due("1: " + name + " bears a name of the face", faceMethods.contains(name), false);
    int deepest = 0;
    for (String name : callees.keySet()) {
      int depth = depth(name, new HashSet<>());
      check.due("11: calls of " + name + " go " + depth + " deep", depth <= 8, true);
      deepest = Math.max(deepest, depth);
    }
    System.out.println("LanguageTest: calls go " + deepest + " deep, " + classes + " classes");
    check.due("methods seen", faceMethods.size() > 50 && callees.size() > 100, true);
    check.finish();
  }

  public static void main(String[] args) throws Exception {
    JavaCompiler compiler = ToolProvider.getSystemJavaCompiler();
    StandardJavaFileManager files = compiler.getStandardFileManager(null, null, null);
    JavacTask task = (JavacTask) compiler.getTask(null, files, null, List.of("-proc:none"), null,
        files.getJavaFileObjects(Path.of("src/main/java/PromiseWeb.java")));
    CompilationUnitTree unit = task.parse().iterator().next();
    task.analyze();
    LanguageTest test = new LanguageTest(Trees.instance(task), unit);
    test.scan(unit, null);
    test.finish();
  }
}
