import com.sun.source.tree.AssertTree;
import com.sun.source.tree.BinaryTree;
import com.sun.source.tree.BlockTree;
import com.sun.source.tree.ClassTree;
import com.sun.source.tree.CompilationUnitTree;
import com.sun.source.tree.CompoundAssignmentTree;
import com.sun.source.tree.DoWhileLoopTree;
import com.sun.source.tree.EnhancedForLoopTree;
import com.sun.source.tree.ExpressionTree;
import com.sun.source.tree.ForLoopTree;
import com.sun.source.tree.IdentifierTree;
import com.sun.source.tree.ImportTree;
import com.sun.source.tree.LambdaExpressionTree;
import com.sun.source.tree.MemberReferenceTree;
import com.sun.source.tree.MethodInvocationTree;
import com.sun.source.tree.MethodTree;
import com.sun.source.tree.NewArrayTree;
import com.sun.source.tree.NewClassTree;
import com.sun.source.tree.PackageTree;
import com.sun.source.tree.SynchronizedTree;
import com.sun.source.tree.ThrowTree;
import com.sun.source.tree.Tree;
import com.sun.source.tree.TryTree;
import com.sun.source.tree.VariableTree;
import com.sun.source.tree.WhileLoopTree;
import com.sun.source.util.JavacTask;
import com.sun.source.util.TreePath;
import com.sun.source.util.TreePathScanner;
import com.sun.source.util.Trees;
import java.io.IOException;
import java.net.URI;
import java.util.HashMap;
import java.util.HashSet;
import java.util.LinkedHashMap;
import java.util.List;
import java.util.Map;
import java.util.Set;
import java.util.TreeSet;
import javax.lang.model.element.Element;
import javax.lang.model.element.ElementKind;
import javax.lang.model.element.Modifier;
import javax.lang.model.type.ArrayType;
import javax.lang.model.type.TypeMirror;
import javax.tools.Diagnostic;
import javax.tools.DiagnosticCollector;
import javax.tools.JavaCompiler;
import javax.tools.JavaFileObject;
import javax.tools.SimpleJavaFileObject;
import javax.tools.ToolProvider;

/**
 * Reads a source with the compiler's own trees and tells which rules of LANGUAGE.md it breaks, of those that
 * can be told from the text. It is stricter than the rules where the class can do without what they allow
 * (lists, doubles, recursion, objects that are made in loops).
 */
final class LanguageRules extends TreePathScanner<Void, Void> {
  private static final int MOST_LINES = 60;
  private static final int MOST_PARAMETERS = 7;
  private static final int MOST_CLASSES = 12;
  private static final int MOST_FIELDS = 20;
  private static final int DEEPEST_CALLS = 8;
  private static final Set<String> LIBRARY_TYPES = Set.of("java.lang.String", "java.lang.StringBuilder");
  private static final Set<String> CONSTANT_TYPES = Set.of("int", "long", "boolean", "char", "java.lang.String");
  private static final Set<String> NUMBER_TYPES = Set.of("int", "long", "short", "byte", "char", "boolean");
  private static final Set<String> CONSTANT_ROWS = Set.of("int[]", "long[]", "char[]", "byte[]");
  private static final Set<String> CALLS = Set.of(
      "String.length", "String.charAt", "String.isEmpty", "String.equals", "String.substring", "String.toCharArray",
      "StringBuilder.append", "StringBuilder.charAt", "StringBuilder.setCharAt", "StringBuilder.setLength",
      "StringBuilder.deleteCharAt", "StringBuilder.reverse", "StringBuilder.length", "StringBuilder.toString",
      "System.arraycopy", "Arrays.copyOf", "Arrays.copyOfRange", "Arrays.fill");
  private static final Set<String> FUNCTION_CLASSES = Set.of("Math", "Integer", "Long");

  private final Set<String> broken = new TreeSet<>();
  private final Map<Element, Set<Element>> callsOf = new LinkedHashMap<>();
  private final Set<String> faceNames = new HashSet<>();
  private CompilationUnitTree unit;
  private Trees trees;
  private int classes = 0;

  private LanguageRules() {
  }

  /** The rules that are broken, each as its number and what breaks it. */
  static Set<String> brokenBy(String source) throws IOException {
    JavaCompiler compiler = ToolProvider.getSystemJavaCompiler();
    JavaFileObject file = new SimpleJavaFileObject(URI.create("string:///GoldLeaves.java"), JavaFileObject.Kind.SOURCE) {
      @Override
      public CharSequence getCharContent(boolean ignoreErrors) {
        return source;
      }
    };
    LanguageRules rules = new LanguageRules();
    DiagnosticCollector<JavaFileObject> told = new DiagnosticCollector<>();
    JavacTask task = (JavacTask) compiler.getTask(null, null, told, List.of("--release", "17"), null, List.of(file));
    rules.unit = task.parse().iterator().next();
    task.analyze();
    rules.trees = Trees.instance(task);
    rules.collectFace();
    rules.scan(rules.unit, null);
    rules.judgeWhole();
    for (Diagnostic<?> one : told.getDiagnostics()) {
      if (one.getKind() == Diagnostic.Kind.ERROR) {
        rules.broken.add("it does not compile: " + one);
      }
    }
    return rules.broken;
  }

  private void breaks(int rule, String what) {
    broken.add("rule " + rule + ": " + what);
  }

  private void collectFace() {
    for (Tree type : unit.getTypeDecls()) {
      for (Tree member : ((ClassTree) type).getMembers()) {
        if (member instanceof MethodTree method && method.getModifiers().getFlags().contains(Modifier.PUBLIC)) {
          faceNames.add(method.getName().toString());
        }
      }
    }
  }

  private void judgeWhole() {
    if (unit.getTypeDecls().size() != 1) {
      breaks(1, "more than one class at the top");
    }
    if (classes > MOST_CLASSES) {
      breaks(11, classes + " classes");
    }
    Map<Element, Integer> depths = new HashMap<>();
    for (Element method : callsOf.keySet()) {
      int depth = depth(method, new HashSet<>(), depths);
      if (depth > DEEPEST_CALLS) {
        breaks(11, "calls from " + method + " go " + depth + " deep");
      }
    }
  }

  /** How deep the calls from a method go, itself counted. */
  private int depth(Element method, Set<Element> open, Map<Element, Integer> depths) {
    if (depths.containsKey(method)) {
      return depths.get(method);
    }
    if (!open.add(method)) {
      breaks(8, method + " comes to call itself");
      return 0;
    }
    int deepest = 0;
    for (Element called : callsOf.getOrDefault(method, Set.of())) {
      deepest = Math.max(deepest, depth(called, open, depths));
    }
    open.remove(method);
    depths.put(method, deepest + 1);
    return deepest + 1;
  }

  private Element here() {
    return trees.getElement(getCurrentPath());
  }

  private TypeMirror typeOf(Tree tree) {
    return trees.getTypeMirror(new TreePath(getCurrentPath(), tree));
  }

  private boolean isOwn(Element element) {
    Element top = element;
    while (top != null && top.getEnclosingElement() != null && top.getEnclosingElement().getKind() != ElementKind.PACKAGE) {
      top = top.getEnclosingElement();
    }
    return top != null && top.getSimpleName().contentEquals("GoldLeaves");
  }

  /** The method around the place that is looked at; null in a field's initialiser. */
  private MethodTree methodAround() {
    for (Tree tree : getCurrentPath()) {
      if (tree instanceof MethodTree method) {
        return method;
      }
    }
    return null;
  }

  private boolean inLoop() {
    for (Tree tree : getCurrentPath()) {
      if (tree instanceof ForLoopTree || tree instanceof WhileLoopTree || tree instanceof DoWhileLoopTree
          || tree instanceof EnhancedForLoopTree) {
        return true;
      }
    }
    return false;
  }

  /** Whether the place is run while an object of the class is made: a constructor, a field's initialiser. */
  private boolean inConstructor() {
    MethodTree around = methodAround();
    return around == null || around.getReturnType() == null;
  }

  @Override
  public Void visitPackage(PackageTree tree, Void none) {
    breaks(1, "a package line");
    return null;
  }

  @Override
  public Void visitImport(ImportTree tree, Void none) {
    String name = tree.getQualifiedIdentifier().toString();
    if (!Set.of("java.util.ArrayList", "java.util.List", "java.util.Arrays", "java.util.Iterator").contains(name)) {
      breaks(4, "import of " + name);
    }
    return null;
  }

  @Override
  public Void visitClass(ClassTree tree, Void none) {
    classes++;
    boolean atTop = getCurrentPath().getParentPath().getLeaf() instanceof CompilationUnitTree;
    boolean inClass = getCurrentPath().getParentPath().getLeaf() instanceof ClassTree;
    Set<Modifier> flags = tree.getModifiers().getFlags();
    if (!atTop && (!inClass || !here().getModifiers().contains(Modifier.STATIC))) {
      breaks(2, "a class that isn't static: " + tree.getSimpleName());
    }
    if (!atTop && (flags.contains(Modifier.PUBLIC) || flags.contains(Modifier.PROTECTED))) {
      breaks(1, "an open class inside: " + tree.getSimpleName());
    }
    int fields = 0;
    for (Tree member : tree.getMembers()) {
      if (member instanceof VariableTree field && !field.getModifiers().getFlags().contains(Modifier.STATIC)) {
        fields++;
      }
      if (member instanceof BlockTree) {
        breaks(5, "an initialiser block in " + tree.getSimpleName());
      }
    }
    if (fields > MOST_FIELDS) {
      breaks(11, fields + " fields in " + tree.getSimpleName());
    }
    return super.visitClass(tree, none);
  }

  @Override
  public Void visitMethod(MethodTree tree, Void none) {
    Element method = here();
    Set<Modifier> flags = method.getModifiers();
    boolean ofFace = method.getEnclosingElement().getSimpleName().contentEquals("GoldLeaves");
    callsOf.putIfAbsent(method, new HashSet<>());
    if (ofFace && !flags.contains(Modifier.PRIVATE) && !flags.contains(Modifier.PUBLIC)) {
      breaks(1, "neither public nor private: " + method);
    }
    if ((!ofFace || flags.contains(Modifier.PRIVATE)) && tree.getReturnType() != null
        && faceNames.contains(tree.getName().toString())) {
      breaks(1, "a name of the face: " + method);
    }
    if (Set.of("equals", "hashCode", "toString").contains(tree.getName().toString())) {
      breaks(6, "an own " + method);
    }
    if (tree.getParameters().size() > MOST_PARAMETERS) {
      breaks(11, "more than seven parameters: " + method);
    }
    long from = unit.getLineMap().getLineNumber(trees.getSourcePositions().getStartPosition(unit, tree));
    long to = trees.getSourcePositions().getEndPosition(unit, tree);
    if (to > 0 && unit.getLineMap().getLineNumber(to) - from >= MOST_LINES) {
      breaks(11, "a long method: " + method);
    }
    return super.visitMethod(tree, none);
  }

  @Override
  public Void visitVariable(VariableTree tree, Void none) {
    Element variable = here();
    judgeType(variable.asType(), tree.getName().toString());
    if (variable.getKind() == ElementKind.FIELD) {
      judgeField(tree, variable);
    }
    return super.visitVariable(tree, none);
  }

  private void judgeField(VariableTree tree, Element field) {
    Set<Modifier> flags = field.getModifiers();
    boolean ofFace = field.getEnclosingElement().getSimpleName().contentEquals("GoldLeaves");
    if (ofFace && !flags.contains(Modifier.PRIVATE) && !flags.containsAll(Set.of(Modifier.PUBLIC, Modifier.STATIC))) {
      breaks(1, "an open field: " + field);
    }
    if (!flags.contains(Modifier.STATIC)) {
      return;
    }
    String type = field.asType().toString();
    boolean row = CONSTANT_ROWS.contains(type) && tree.getInitializer() instanceof NewArrayTree written
        && written.getInitializers() != null;
    if (!flags.contains(Modifier.FINAL) || !CONSTANT_TYPES.contains(type) && !row) {
      breaks(5, "static state: " + field);
    }
  }

  private void judgeType(TypeMirror type, String name) {
    TypeMirror core = type;
    int dimensions = 0;
    while (core instanceof ArrayType array) {
      core = array.getComponentType();
      dimensions++;
    }
    boolean number = NUMBER_TYPES.contains(core.toString());
    boolean own = core.toString().startsWith("GoldLeaves");
    boolean good = number && dimensions <= 2 || own && dimensions <= 1
        || LIBRARY_TYPES.contains(core.toString()) && dimensions == 0;
    if (!good) {
      breaks(3, "type " + type + " of " + name);
    }
  }

  @Override
  public Void visitMethodInvocation(MethodInvocationTree tree, Void none) {
    Element called = trees.getElement(new TreePath(getCurrentPath(), tree.getMethodSelect()));
    boolean constructor = called != null && called.getKind() == ElementKind.CONSTRUCTOR;
    if (called != null && isOwn(called)) {
      MethodTree around = methodAround();
      if (around != null) {
        callsOf.computeIfAbsent(trees.getElement(trees.getPath(unit, around)), m -> new HashSet<>()).add(called);
      }
      if (inConstructor() && !constructor) {
        breaks(12, "a constructor calls " + called);
      }
    } else if (called != null && !constructor) {
      judgeLibraryCall(called);
    }
    judgeHandedOut(tree.getArguments());
    return super.visitMethodInvocation(tree, none);
  }

  private void judgeLibraryCall(Element called) {
    String owner = called.getEnclosingElement().getSimpleName().toString();
    String name = called.getSimpleName().toString();
    boolean function = FUNCTION_CLASSES.contains(owner) && called.getModifiers().contains(Modifier.STATIC)
        && !name.endsWith("Exact") && called.toString().matches("\\w+\\((int|long)(,(int|long))*\\)");
    boolean rowCopy = owner.equals("Array") && name.equals("clone");
    if (!function && !rowCopy && !CALLS.contains(owner + "." + name)) {
      breaks(4, "call of " + owner + "." + name);
    }
  }

  /** A constructor may not hand on the object that it makes, nor a field of it. */
  private void judgeHandedOut(List<? extends ExpressionTree> arguments) {
    for (ExpressionTree argument : arguments) {
      Element handed = trees.getElement(new TreePath(getCurrentPath(), argument));
      boolean self = argument instanceof IdentifierTree name && name.getName().contentEquals("this");
      boolean field = handed != null && handed.getKind() == ElementKind.FIELD && isOwn(handed)
          && !handed.asType().getKind().isPrimitive();
      if (inConstructor() && (self || field)) {
        breaks(12, "a constructor hands out " + argument);
      }
    }
  }

  @Override
  public Void visitNewClass(NewClassTree tree, Void none) {
    if (tree.getClassBody() != null) {
      breaks(2, "an anonymous class");
    }
    judgeType(typeOf(tree), "a new object");
    if (inLoop()) {
      breaks(12, "an object made in a loop");
    }
    judgeHandedOut(tree.getArguments());
    return super.visitNewClass(tree, none);
  }

  @Override
  public Void visitNewArray(NewArrayTree tree, Void none) {
    if (inLoop()) {
      breaks(12, "an array made in a loop");
    }
    return super.visitNewArray(tree, none);
  }

  @Override
  public Void visitBinary(BinaryTree tree, Void none) {
    String left = String.valueOf(typeOf(tree.getLeftOperand()));
    String right = String.valueOf(typeOf(tree.getRightOperand()));
    boolean text = left.equals("java.lang.String") || right.equals("java.lang.String");
    boolean comparison = tree.getKind() == Tree.Kind.EQUAL_TO || tree.getKind() == Tree.Kind.NOT_EQUAL_TO;
    if (comparison && (left + right).matches("java\\.lang\\.(String|Integer)java\\.lang\\.(String|Integer)")) {
      breaks(6, "== or != of texts: " + tree);
    }
    if (tree.getKind() == Tree.Kind.PLUS && text) {
      breaks(10, "texts joined by +: " + tree);
    }
    return super.visitBinary(tree, none);
  }

  @Override
  public Void visitCompoundAssignment(CompoundAssignmentTree tree, Void none) {
    if (String.valueOf(typeOf(tree.getVariable())).equals("java.lang.String")) {
      breaks(10, "texts joined by +=: " + tree);
    }
    return super.visitCompoundAssignment(tree, none);
  }

  private void judgeLoop(ExpressionTree condition) {
    String text = condition == null ? "" : condition.toString().replaceAll("[()\\s]", "");
    if (text.isEmpty() || text.equals("true")) {
      breaks(9, "a loop without an end");
    }
  }

  @Override
  public Void visitForLoop(ForLoopTree tree, Void none) {
    judgeLoop(tree.getCondition());
    return super.visitForLoop(tree, none);
  }

  @Override
  public Void visitWhileLoop(WhileLoopTree tree, Void none) {
    judgeLoop(tree.getCondition());
    return super.visitWhileLoop(tree, none);
  }

  @Override
  public Void visitDoWhileLoop(DoWhileLoopTree tree, Void none) {
    judgeLoop(tree.getCondition());
    return super.visitDoWhileLoop(tree, none);
  }

  @Override
  public Void visitLambdaExpression(LambdaExpressionTree tree, Void none) {
    breaks(2, "a lambda");
    return super.visitLambdaExpression(tree, none);
  }

  @Override
  public Void visitMemberReference(MemberReferenceTree tree, Void none) {
    breaks(2, "a method reference");
    return super.visitMemberReference(tree, none);
  }

  @Override
  public Void visitThrow(ThrowTree tree, Void none) {
    breaks(6, "throw");
    return super.visitThrow(tree, none);
  }

  @Override
  public Void visitTry(TryTree tree, Void none) {
    breaks(6, "try");
    return super.visitTry(tree, none);
  }

  @Override
  public Void visitSynchronized(SynchronizedTree tree, Void none) {
    breaks(6, "synchronized");
    return super.visitSynchronized(tree, none);
  }

  @Override
  public Void visitAssert(AssertTree tree, Void none) {
    breaks(6, "assert");
    return super.visitAssert(tree, none);
  }
}
