import com.sun.source.tree.AssertTree;
import com.sun.source.tree.BinaryTree;
import com.sun.source.tree.BlockTree;
import com.sun.source.tree.CatchTree;
import com.sun.source.tree.ClassTree;
import com.sun.source.tree.CompilationUnitTree;
import com.sun.source.tree.CompoundAssignmentTree;
import com.sun.source.tree.DoWhileLoopTree;
import com.sun.source.tree.ExpressionTree;
import com.sun.source.tree.ForLoopTree;
import com.sun.source.tree.ImportTree;
import com.sun.source.tree.LambdaExpressionTree;
import com.sun.source.tree.LiteralTree;
import com.sun.source.tree.MemberReferenceTree;
import com.sun.source.tree.MemberSelectTree;
import com.sun.source.tree.MethodInvocationTree;
import com.sun.source.tree.MethodTree;
import com.sun.source.tree.NewArrayTree;
import com.sun.source.tree.NewClassTree;
import com.sun.source.tree.SynchronizedTree;
import com.sun.source.tree.ThrowTree;
import com.sun.source.tree.Tree;
import com.sun.source.tree.TryTree;
import com.sun.source.tree.TypeCastTree;
import com.sun.source.tree.VariableTree;
import com.sun.source.tree.WhileLoopTree;
import com.sun.source.util.JavacTask;
import com.sun.source.util.TreePath;
import com.sun.source.util.TreePathScanner;
import com.sun.source.util.Trees;
import java.io.IOException;
import java.net.URI;
import java.util.ArrayList;
import java.util.LinkedHashMap;
import java.util.LinkedHashSet;
import java.util.List;
import java.util.Map;
import java.util.Set;
import javax.lang.model.element.Element;
import javax.lang.model.element.ElementKind;
import javax.lang.model.element.ExecutableElement;
import javax.lang.model.element.Modifier;
import javax.lang.model.element.TypeElement;
import javax.lang.model.element.VariableElement;
import javax.lang.model.type.ArrayType;
import javax.lang.model.type.DeclaredType;
import javax.lang.model.type.TypeKind;
import javax.lang.model.type.TypeMirror;
import javax.tools.Diagnostic;
import javax.tools.DiagnosticCollector;
import javax.tools.JavaCompiler;
import javax.tools.JavaFileObject;
import javax.tools.SimpleJavaFileObject;
import javax.tools.ToolProvider;

/**
 * Which rules of LANGUAGE.md a source breaks, as far as javac's own tree of it shows that. Where a
 * rule allows something with a condition that no tree shows (recursion with a guard, casts behind a
 * test), this allows less: the class does without it.
 */
final class Language extends TreePathScanner<Void, Void> {
  private static final int MOST_LINES = 60;
  private static final int MOST_CLASSES = 12;
  private static final int DEEPEST = 8;

  private static final Set<String> IMPORTS = Set.of("java.util.ArrayList", "java.util.Arrays",
      "java.util.Iterator", "java.util.List", "java.util.NoSuchElementException");
  private static final Set<String> EXCEPTIONS = Set.of("IllegalStateException",
      "IllegalArgumentException", "IndexOutOfBoundsException", "ArithmeticException",
      "UnsupportedOperationException", "NoSuchElementException", "RuntimeException");
  private static final Set<String> LIST =
      Set.of("add", "get", "set", "remove", "size", "isEmpty", "clear", "of");
  private static final Map<String, Set<String>> LIBRARY = Map.of(
      "String", Set.of("length", "charAt", "isEmpty", "equals", "indexOf", "substring",
          "toCharArray"),
      "StringBuilder", Set.of("append", "charAt", "setCharAt", "setLength", "deleteCharAt",
          "reverse", "length", "toString"),
      "ArrayList", LIST,
      "List", LIST,
      "System", Set.of("arraycopy"),
      "Arrays", Set.of("copyOf", "copyOfRange", "fill"),
      "an array", Set.of("clone"));
  private static final Set<String> NUMBERS = Set.of("Integer", "Long", "Math");
  private static final Set<String> TYPES =
      Set.of("String", "StringBuilder", "Integer", "Iterator", "Iterable", "Comparable");

  private final CompilationUnitTree unit;
  private final Trees trees;
  private final List<String> faults = new ArrayList<>();
  private final Map<Element, Set<Element>> calls = new LinkedHashMap<>();
  private TypeElement top;
  private Element method;
  private boolean isThrowing;
  private boolean isCatching;
  private int classes;

  private Language(CompilationUnitTree unit, Trees trees) {
    this.unit = unit;
    this.trees = trees;
  }

  /** "rule 4: line 12: ..", one for each place; none, if no rule is broken that this looks at. */
  static List<String> faultsOf(String source) throws IOException {
    JavaCompiler compiler = ToolProvider.getSystemJavaCompiler();
    DiagnosticCollector<JavaFileObject> told = new DiagnosticCollector<>();
    JavaFileObject file =
        new SimpleJavaFileObject(URI.create("string:///Undermost.java"), JavaFileObject.Kind.SOURCE) {
          @Override
          public CharSequence getCharContent(boolean ignoreEncodingErrors) {
            return source;
          }
        };
    JavacTask task = (JavacTask) compiler.getTask(null, null, told,
        List.of("--release", "17", "-proc:none"), null, List.of(file));
    CompilationUnitTree unit = task.parse().iterator().next();
    task.analyze();
    for (Diagnostic<?> each : told.getDiagnostics()) {
      if (each.getKind() == Diagnostic.Kind.ERROR) {
        return List.of("does not compile: " + each);
      }
    }
    Language language = new Language(unit, Trees.instance(task));
    language.scan(unit, null);
    language.lookAtCalls();
    return language.faults;
  }

  // ---- what the rules share

  private void fault(int rule, String what) {
    long start = trees.getSourcePositions().getStartPosition(unit, getCurrentPath().getLeaf());
    faults.add("rule " + rule + ": line " + unit.getLineMap().getLineNumber(start) + ": " + what);
  }

  private void faultUnless(boolean isKept, int rule, String what) {
    if (!isKept) {
      fault(rule, what);
    }
  }

  private TypeMirror typeOf(Tree tree) {
    return trees.getTypeMirror(new TreePath(getCurrentPath(), tree));
  }

  private static String name(TypeMirror type) {
    if (type == null) {
      return "";
    }
    if (type.getKind() == TypeKind.ARRAY) {
      return "an array";
    }
    return type.getKind() == TypeKind.DECLARED
        ? ((DeclaredType) type).asElement().getSimpleName().toString() : type.toString();
  }

  private boolean isOwn(Element element) {
    for (Element e = element; e != null; e = e.getEnclosingElement()) {
      if (e.equals(top)) {
        return true;
      }
    }
    return false;
  }

  private boolean isOwn(TypeMirror type) {
    return type.getKind() == TypeKind.DECLARED && isOwn(((DeclaredType) type).asElement());
  }

  private static boolean isIntOrLong(TypeMirror type) {
    return type.getKind() == TypeKind.INT || type.getKind() == TypeKind.LONG;
  }

  private static boolean isFloating(TypeMirror type) {
    return type.getKind() == TypeKind.DOUBLE || type.getKind() == TypeKind.FLOAT;
  }

  // ---- rules 1 and 2: one class, classes inside, what a class may not hold

  @Override
  public Void visitCompilationUnit(CompilationUnitTree tree, Void v) {
    faultUnless(tree.getPackageName() == null, 1, "a package line");
    faultUnless(tree.getTypeDecls().size() == 1, 1, "more than one class beside another");
    return super.visitCompilationUnit(tree, v);
  }

  @Override
  public Void visitImport(ImportTree tree, Void v) {
    String what = tree.getQualifiedIdentifier().toString();
    faultUnless(!tree.isStatic() && IMPORTS.contains(what), 4, "import of " + what);
    return null;
  }

  @Override
  public Void visitClass(ClassTree tree, Void v) {
    Element element = trees.getElement(getCurrentPath());
    if (top == null) {
      top = (TypeElement) element;
    }
    classes++;
    faultUnless(classes <= MOST_CLASSES, 11, "more classes than " + MOST_CLASSES);
    boolean isLocal = getCurrentPath().getParentPath().getLeaf() instanceof BlockTree;
    faultUnless(!isLocal, 2, "a local class");
    return super.visitClass(tree, v);
  }

  @Override
  public Void visitLambdaExpression(LambdaExpressionTree tree, Void v) {
    fault(2, "a lambda");
    return super.visitLambdaExpression(tree, v);
  }

  @Override
  public Void visitMemberReference(MemberReferenceTree tree, Void v) {
    fault(2, "a method reference");
    return super.visitMemberReference(tree, v);
  }

  // ---- rules 3 and 5: types, static fields

  private boolean isAllowed(TypeMirror type) {
    if (type.getKind().isPrimitive() || isOwn(type) || type.getKind() == TypeKind.TYPEVAR) {
      return true;
    }
    if (type.getKind() == TypeKind.ARRAY) {
      TypeMirror of = ((ArrayType) type).getComponentType();
      if (of.getKind() == TypeKind.ARRAY) {
        TypeKind inner = ((ArrayType) of).getComponentType().getKind();
        return inner.isPrimitive() && inner != TypeKind.BOOLEAN;
      }
      return of.getKind().isPrimitive() || isOwn(of);
    }
    if (name(type).equals("ArrayList") || name(type).equals("List")) {
      List<? extends TypeMirror> of = ((DeclaredType) type).getTypeArguments();
      return of.size() == 1 && (isOwn(of.get(0)) || name(of.get(0)).equals("Integer")
          || of.get(0).getKind() == TypeKind.TYPEVAR);
    }
    return TYPES.contains(name(type));
  }

  @Override
  public Void visitVariable(VariableTree tree, Void v) {
    Element element = trees.getElement(getCurrentPath());
    if (element.getKind() != ElementKind.EXCEPTION_PARAMETER) {
      faultUnless(isAllowed(element.asType()), 3, tree.getName() + " is of " + element.asType());
    }
    if (element.getKind() == ElementKind.FIELD
        && element.getModifiers().contains(Modifier.STATIC)) {
      faultUnless(isConstant(tree, element), 5, "static field " + tree.getName());
    }
    return super.visitVariable(tree, v);
  }

  private boolean isConstant(VariableTree tree, Element element) {
    TypeMirror type = element.asType();
    if (!element.getModifiers().contains(Modifier.FINAL) || tree.getInitializer() == null) {
      return false;
    }
    if (type.getKind() == TypeKind.ARRAY) {
      TypeMirror of = ((ArrayType) type).getComponentType();
      boolean isWrittenOut = tree.getInitializer() instanceof NewArrayTree
          && ((NewArrayTree) tree.getInitializer()).getInitializers() != null;
      return isWrittenOut && (isIntOrLong(of) || of.getKind() == TypeKind.CHAR
          || of.getKind() == TypeKind.BYTE);
    }
    return isIntOrLong(type) || type.getKind() == TypeKind.BOOLEAN
        || type.getKind() == TypeKind.CHAR || name(type).equals("String");
  }

  @Override
  public Void visitBlock(BlockTree tree, Void v) {
    faultUnless(!tree.isStatic(), 5, "a static initialiser block");
    return super.visitBlock(tree, v);
  }

  // ---- rule 4: the library

  @Override
  public Void visitMethodInvocation(MethodInvocationTree tree, Void v) {
    ExecutableElement called = (ExecutableElement) trees.getElement(getCurrentPath());
    if (isOwn(called)) {
      note(called);
    } else if (called.getKind() != ElementKind.CONSTRUCTOR) {
      // What is no own constructor here is the super() that javac writes into one.
      ExpressionTree select = tree.getMethodSelect();
      String of = select instanceof MemberSelectTree
          ? name(trees.getTypeMirror(new TreePath(new TreePath(getCurrentPath(), select),
              ((MemberSelectTree) select).getExpression())))
          : "itself";
      faultUnless(isOfTheLibrary(of, called), 4, of + "." + called);
    }
    return super.visitMethodInvocation(tree, v);
  }

  private static boolean isOfTheLibrary(String of, ExecutableElement called) {
    String name = called.getSimpleName().toString();
    List<? extends VariableElement> takes = called.getParameters();
    if (NUMBERS.contains(of)) {
      boolean areWhole = true;
      for (VariableElement each : takes) {
        areWhole &= isIntOrLong(each.asType());
      }
      return areWhole && !name.endsWith("Exact")
          && called.getModifiers().contains(Modifier.STATIC);
    }
    if (!LIBRARY.containsKey(of) || !LIBRARY.get(of).contains(name)) {
      return false;
    }
    switch (name) {
      case "append":
        return takes.size() == 1
            && Set.of("char", "int", "String").contains(name(takes.get(0).asType()));
      case "remove": case "indexOf":
        return takes.size() == 1 && takes.get(0).asType().getKind() == TypeKind.INT;
      case "copyOf": case "copyOfRange": case "fill":
        return takes.get(0).asType().getKind() == TypeKind.ARRAY
            && ((ArrayType) takes.get(0).asType()).getComponentType().getKind().isPrimitive();
      default:
        return true;
    }
  }

  @Override
  public Void visitNewClass(NewClassTree tree, Void v) {
    ExecutableElement made = (ExecutableElement) trees.getElement(getCurrentPath());
    String name = name(made.getEnclosingElement().asType());
    boolean isThrown = getCurrentPath().getParentPath().getLeaf() instanceof ThrowTree;
    if (isOwn(made)) {
      note(made);
    } else if (name.equals("String")) {
      boolean isOfChars = made.getParameters().size() == 1
          && made.getParameters().get(0).asType().toString().equals("char[]");
      faultUnless(isOfChars, 4, "new " + made);
    } else if (!isThrown) {
      faultUnless(name.equals("ArrayList") || name.equals("StringBuilder"), 4, "new " + name);
    }
    return super.visitNewClass(tree, v);
  }

  @Override
  public Void visitLiteral(LiteralTree tree, Void v) {
    Object value = tree.getValue();
    if (value instanceof String || value instanceof Character) {
      boolean isPlain = value.toString().chars().allMatch(sign -> sign >= 1 && sign <= 127);
      faultUnless(isPlain, 4, "signs in " + tree);
    }
    return super.visitLiteral(tree, v);
  }

  // ---- rule 6: exceptions

  @Override
  public Void visitThrow(ThrowTree tree, Void v) {
    isThrowing = true;
    faultUnless(isWrittenOut(tree.getExpression()), 6, "throw " + tree.getExpression());
    faultUnless(method == null || method.getKind() != ElementKind.CONSTRUCTOR, 6,
        "throw in a constructor");
    return super.visitThrow(tree, v);
  }

  private boolean isWrittenOut(ExpressionTree thrown) {
    if (!(thrown instanceof NewClassTree)) {
      return false;
    }
    NewClassTree made = (NewClassTree) thrown;
    List<? extends ExpressionTree> arguments = made.getArguments();
    return EXCEPTIONS.contains(made.getIdentifier().toString())
        && made.getClassBody() == null
        && (arguments.isEmpty()
            || arguments.size() == 1 && arguments.get(0) instanceof LiteralTree);
  }

  @Override
  public Void visitTry(TryTree tree, Void v) {
    isCatching = true;
    faultUnless(tree.getFinallyBlock() == null, 6, "finally");
    faultUnless(tree.getResources().isEmpty(), 6, "try with resources");
    return super.visitTry(tree, v);
  }

  @Override
  public Void visitCatch(CatchTree tree, Void v) {
    String type = tree.getParameter().getType().toString();
    faultUnless(EXCEPTIONS.contains(type), 6, "catch of " + type);
    return super.visitCatch(tree, v);
  }

  @Override
  public Void visitSynchronized(SynchronizedTree tree, Void v) {
    fault(6, "synchronized");
    return super.visitSynchronized(tree, v);
  }

  @Override
  public Void visitAssert(AssertTree tree, Void v) {
    fault(6, "assert");
    return super.visitAssert(tree, v);
  }

  @Override
  public Void visitTypeCast(TypeCastTree tree, Void v) {
    faultUnless(typeOf(tree.getType()).getKind().isPrimitive(), 6, "cast to " + tree.getType());
    return super.visitTypeCast(tree, v);
  }

  // ---- rules 3, 6 and 10: what is done with two sides

  @Override
  public Void visitBinary(BinaryTree tree, Void v) {
    TypeMirror left = typeOf(tree.getLeftOperand());
    TypeMirror right = typeOf(tree.getRightOperand());
    switch (tree.getKind()) {
      case EQUAL_TO: case NOT_EQUAL_TO:
        boolean areBoth = name(left).equals(name(right))
            && Set.of("String", "Integer").contains(name(left));
        faultUnless(!areBoth, 6, tree + ", of two of " + name(left));
        break;
      case REMAINDER:
        faultUnless(!isFloating(left) && !isFloating(right), 3, tree + ", of doubles");
        break;
      case PLUS:
        faultUnless(!name(left).equals("String") && !name(right).equals("String"), 10,
            "texts joined by +");
        break;
      default:
    }
    return super.visitBinary(tree, v);
  }

  @Override
  public Void visitCompoundAssignment(CompoundAssignmentTree tree, Void v) {
    TypeMirror left = typeOf(tree.getVariable());
    faultUnless(!name(left).equals("String"), 10, "texts joined by +=");
    faultUnless(tree.getKind() != Tree.Kind.REMAINDER_ASSIGNMENT || !isFloating(left), 3,
        tree + ", of doubles");
    return super.visitCompoundAssignment(tree, v);
  }

  // ---- rule 9: loops

  private void lookAtEnd(ExpressionTree condition) {
    boolean isEndless = condition == null
        || condition.toString().replace("(", "").replace(")", "").equals("true");
    faultUnless(!isEndless, 9, "a loop without an end of its own");
  }

  @Override
  public Void visitForLoop(ForLoopTree tree, Void v) {
    lookAtEnd(tree.getCondition());
    return super.visitForLoop(tree, v);
  }

  @Override
  public Void visitWhileLoop(WhileLoopTree tree, Void v) {
    lookAtEnd(tree.getCondition());
    return super.visitWhileLoop(tree, v);
  }

  @Override
  public Void visitDoWhileLoop(DoWhileLoopTree tree, Void v) {
    lookAtEnd(tree.getCondition());
    return super.visitDoWhileLoop(tree, v);
  }

  // ---- rules 8 and 11: methods, and how deep they call

  @Override
  public Void visitMethod(MethodTree tree, Void v) {
    Element outer = method;
    method = trees.getElement(getCurrentPath());
    isThrowing = false;
    isCatching = false;
    calls.computeIfAbsent(method, each -> new LinkedHashSet<>());
    faultUnless(!tree.getModifiers().getFlags().contains(Modifier.SYNCHRONIZED), 6,
        "synchronized");
    faultUnless(tree.getParameters().size() <= 7, 11, "more than seven parameters");
    faultUnless(linesOf(tree) <= MOST_LINES, 11, "more than " + MOST_LINES + " lines");
    if (tree.getReturnType() != null) {
      TypeMirror returned = typeOf(tree.getReturnType());
      faultUnless(returned.getKind() == TypeKind.VOID || isAllowed(returned), 3,
          "returns " + returned);
    }
    super.visitMethod(tree, v);
    faultUnless(!isThrowing || !isCatching, 6, "a try in the method that holds the throw");
    method = outer;
    return null;
  }

  private long linesOf(MethodTree tree) {
    long start = trees.getSourcePositions().getStartPosition(unit, tree);
    long end = trees.getSourcePositions().getEndPosition(unit, tree);
    // A constructor that javac wrote itself has no end.
    return end < start ? 0
        : unit.getLineMap().getLineNumber(end) - unit.getLineMap().getLineNumber(start) + 1;
  }

  private void note(ExecutableElement called) {
    if (method != null) {
      calls.computeIfAbsent(method, each -> new LinkedHashSet<>()).add(called);
    }
  }

  private void lookAtCalls() {
    Map<Element, Integer> depths = new LinkedHashMap<>();
    for (Element each : calls.keySet()) {
      int depth = depth(each, depths, new LinkedHashSet<>());
      if (depth > DEEPEST) {
        faults.add("rule 11: " + each + " calls " + depth + " deep");
      }
    }
  }

  private int depth(Element of, Map<Element, Integer> depths, Set<Element> open) {
    if (depths.containsKey(of)) {
      return depths.get(of);
    }
    if (!open.add(of)) {
      faults.add("rule 8: " + of + " calls itself");
      return 0;
    }
    int deepest = 0;
    for (Element called : calls.getOrDefault(of, Set.of())) {
      deepest = Math.max(deepest, depth(called, depths, open));
    }
    open.remove(of);
    depths.put(of, deepest + 1);
    return deepest + 1;
  }
}
