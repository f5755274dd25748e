import com.sun.source.tree.ArrayAccessTree;
import com.sun.source.tree.AssertTree;
import com.sun.source.tree.BinaryTree;
import com.sun.source.tree.BlockTree;
import com.sun.source.tree.ClassTree;
import com.sun.source.tree.CompilationUnitTree;
import com.sun.source.tree.CompoundAssignmentTree;
import com.sun.source.tree.DoWhileLoopTree;
import com.sun.source.tree.EnhancedForLoopTree;
import com.sun.source.tree.ExpressionTree;
import com.sun.source.tree.ForLoopTree;
import com.sun.source.tree.IdentifierTree;
import com.sun.source.tree.ImportTree;
import com.sun.source.tree.LambdaExpressionTree;
import com.sun.source.tree.LiteralTree;
import com.sun.source.tree.MemberReferenceTree;
import com.sun.source.tree.MemberSelectTree;
import com.sun.source.tree.MethodInvocationTree;
import com.sun.source.tree.MethodTree;
import com.sun.source.tree.NewArrayTree;
import com.sun.source.tree.NewClassTree;
import com.sun.source.tree.SwitchTree;
import com.sun.source.tree.SynchronizedTree;
import com.sun.source.tree.ThrowTree;
import com.sun.source.tree.Tree;
import com.sun.source.tree.TryTree;
import com.sun.source.tree.TypeCastTree;
import com.sun.source.tree.VariableTree;
import com.sun.source.tree.WhileLoopTree;
import com.sun.source.util.JavacTask;
import com.sun.source.util.TreePath;
import com.sun.source.util.TreePathScanner;
import com.sun.source.util.TreeScanner;
import com.sun.source.util.Trees;
import java.nio.charset.StandardCharsets;
import java.nio.file.Files;
import java.nio.file.Path;
import java.util.HashMap;
import java.util.HashSet;
import java.util.List;
import java.util.Map;
import java.util.Set;
import java.util.TreeMap;
import java.util.TreeSet;
import java.util.regex.Pattern;
import javax.lang.model.element.Element;
import javax.lang.model.element.ElementKind;
import javax.lang.model.element.Modifier;
import javax.lang.model.element.VariableElement;
import javax.lang.model.type.ArrayType;
import javax.lang.model.type.TypeKind;
import javax.lang.model.type.TypeMirror;
import javax.tools.JavaCompiler;
import javax.tools.StandardJavaFileManager;
import javax.tools.ToolProvider;

/** LANGUAGE.md, rule by rule, held against the text of the class as the compiler reads it. */
public final class MaxGardenLanguage {
  private static final Set<String> IMPORTS = Set.of("java.util.ArrayList", "java.util.Arrays", "java.util.Iterator",
      "java.util.List", "java.util.NoSuchElementException");
  private static final Set<String> EXCEPTIONS = Set.of("IllegalStateException", "IllegalArgumentException",
      "IndexOutOfBoundsException", "ArithmeticException", "UnsupportedOperationException", "NoSuchElementException",
      "RuntimeException");
  private static final Map<String, Set<String>> LIBRARY = Map.of(
      "java.lang.Math", Set.of("max", "min", "abs", "floorDiv", "floorMod"),
      "java.lang.Integer", Set.of("compare", "max", "min", "bitCount"),
      "java.lang.Long", Set.of("compare", "max", "min", "bitCount"),
      "java.lang.System", Set.of("arraycopy"),
      "java.util.Arrays", Set.of("fill", "copyOf", "copyOfRange"));
  private static final int MOST_LINES = 60;
  private static final int DEEPEST = 8;

  private static int checks;
  private static int wrong;
  private static Trees trees;
  private static CompilationUnitTree unit;
  private static String text;

  /** What a method calls of the class's own, by its owner and its name. */
  private static final Map<String, Set<String>> calls = new TreeMap<>();
  private static final Set<String> face = new TreeSet<>();

  private MaxGardenLanguage() {
  }

  public static void main(String[] arguments) throws Exception {
    Path file = Path.of(System.getProperty("project.root", "."), "src/main/java/MaxGarden.java");
    text = Files.readString(file, StandardCharsets.UTF_8);
    JavaCompiler compiler = ToolProvider.getSystemJavaCompiler();
    try (StandardJavaFileManager files = compiler.getStandardFileManager(null, null, null)) {
      JavacTask task = (JavacTask) compiler.getTask(null, files, null, List.of("-proc:none", "-Xlint:all"), null,
          files.getJavaFileObjects(file));
      unit = task.parse().iterator().next();
      task.analyze();
      trees = Trees.instance(task);
      new Rules().scan(unit, null);
    }
    callsAreShallow();
    System.out.println("language: " + checks + " checks, " + wrong + " wrong");
    if (wrong != 0) {
      System.exit(1);
    }
  }

  private static void due(boolean isDue, int rule, Tree at, String what) {
    checks++;
    if (!isDue) {
      wrong++;
      long line = at == null ? 0 : unit.getLineMap().getLineNumber(startOf(at));
      System.out.println("LANGUAGE.md, rule " + rule + ", line " + line + ": " + what);
    }
  }

  private static long startOf(Tree tree) {
    return trees.getSourcePositions().getStartPosition(unit, tree);
  }

  private static String textOf(Tree tree) {
    return text.substring((int) startOf(tree), (int) trees.getSourcePositions().getEndPosition(unit, tree));
  }

  /** Rules 8 and 11: calls of the class's own methods that are open at once, from each method of the face on. */
  private static void callsAreShallow() {
    due(face.size() == 54, 1, null, "the face has " + face.size() + " methods");
    for (String name : face) {
      int depth = depthOf(name, new HashSet<>(), new HashMap<>());
      due(depth <= DEEPEST, 11, null, name + " goes " + depth + " deep");
    }
  }

  private static int depthOf(String name, Set<String> open, Map<String, Integer> found) {
    if (found.containsKey(name)) {
      return found.get(name);
    }
    open.add(name);
    int deepest = 0;
    for (String next : calls.getOrDefault(name, Set.of())) {
      if (open.contains(next)) {
        due(next.equals(name), 8, null, name + " and " + next + " call one another");
      } else {
        deepest = Math.max(deepest, depthOf(next, open, found));
      }
    }
    open.remove(name);
    found.put(name, deepest + 1);
    return deepest + 1;
  }

  private static final class Rules extends TreePathScanner<Void, Void> {
    private int classes;
    private MethodTree method;
    private String methodText = "";
    private int loops;

    private Element elementOf(Tree tree) {
      return trees.getElement(TreePath.getPath(unit, tree));
    }

    private TypeMirror typeOf(Tree tree) {
      return trees.getTypeMirror(TreePath.getPath(unit, tree));
    }

    private static boolean isOwn(Element element) {
      Element each = element;
      while (each != null && each.getKind() != ElementKind.PACKAGE) {
        if (each.toString().equals("MaxGarden")) {
          return true;
        }
        each = each.getEnclosingElement();
      }
      return false;
    }

    private static boolean isOwnType(TypeMirror type) {
      return type.toString().equals("MaxGarden") || type.toString().startsWith("MaxGarden.");
    }

    private static boolean isAllowed(TypeMirror type) {
      if (type.getKind() == TypeKind.ARRAY) {
        TypeMirror inner = ((ArrayType) type).getComponentType();
        boolean isTable = inner.getKind() == TypeKind.ARRAY
            && ((ArrayType) inner).getComponentType().getKind().isPrimitive();
        return isTable || inner.getKind().isPrimitive() || isOwnType(inner);
      }
      return type.getKind().isPrimitive() || isOwnType(type) || type.toString().equals("java.lang.String")
          || type.toString().equals("java.lang.StringBuilder");
    }

    @Override
    public Void visitCompilationUnit(CompilationUnitTree node, Void none) {
      due(node.getPackageName() == null, 1, node, "there is a package line");
      due(node.getTypeDecls().size() == 1, 1, node, "there are " + node.getTypeDecls().size() + " outer classes");
      super.visitCompilationUnit(node, none);
      due(classes <= 12, 11, node, "there are " + classes + " classes");
      return null;
    }

    @Override
    public Void visitImport(ImportTree node, Void none) {
      due(!node.isStatic() && IMPORTS.contains(node.getQualifiedIdentifier().toString()), 4, node, "import of "
          + node.getQualifiedIdentifier());
      return super.visitImport(node, none);
    }

    @Override
    public Void visitClass(ClassTree node, Void none) {
      classes++;
      Tree around = getCurrentPath().getParentPath().getLeaf();
      due(around instanceof CompilationUnitTree || around instanceof ClassTree, 2, node, "a local class");
      Set<Modifier> flags = node.getModifiers().getFlags();
      if (around instanceof CompilationUnitTree) {
        due(flags.contains(Modifier.PUBLIC) && flags.contains(Modifier.FINAL), 1, node, "not public and final");
      } else {
        due(flags.contains(Modifier.STATIC) && !flags.contains(Modifier.PUBLIC) && !flags.contains(Modifier.PROTECTED),
            1, node, "a class inside that is not private or package-visible and static");
      }
      int fields = 0;
      for (Tree member : node.getMembers()) {
        due(!(member instanceof BlockTree), 5, member, "an initialiser block");
        if (member instanceof VariableTree) {
          Set<Modifier> its = ((VariableTree) member).getModifiers().getFlags();
          due(its.contains(Modifier.PRIVATE), 1, member, "a field that is not private");
          fields += its.contains(Modifier.STATIC) ? 0 : 1;
        }
      }
      due(fields <= 20, 11, node, node.getSimpleName() + " has " + fields + " fields");
      return super.visitClass(node, none);
    }

    @Override
    public Void visitMethod(MethodTree node, Void none) {
      boolean isMade = node.getName().contentEquals("<init>");
      boolean isFace = node.getModifiers().getFlags().contains(Modifier.PUBLIC);
      String owner = ((ClassTree) getCurrentPath().getParentPath().getLeaf()).getSimpleName().toString();
      boolean isWritten = !(isMade && trees.getSourcePositions().getEndPosition(unit, node) <= startOf(node));
      if (isFace && !isMade) {
        due(owner.equals("MaxGarden"), 1, node, "public outside the face");
        face.add(owner + "." + node.getName());
      } else if (!isMade) {
        due(node.getModifiers().getFlags().contains(Modifier.PRIVATE), 1, node, "not private: " + node.getName());
      }
      due(node.getParameters().size() <= 7, 11, node, "more than seven parameters");
      if (node.getReturnType() != null && typeOf(node.getReturnType()).getKind() != TypeKind.VOID) {
        due(isAllowed(typeOf(node.getReturnType())), 3, node, "a type that is not of the language");
      }
      method = node;
      methodText = isWritten ? textOf(node) : "";
      due(methodText.split("\n").length <= MOST_LINES, 11, node, "a long method: " + node.getName());
      super.visitMethod(node, none);
      method = null;
      methodText = "";
      return null;
    }

    private String methodName() {
      Element element = elementOf(method);
      return element.getEnclosingElement().getSimpleName() + "." + element.getSimpleName();
    }

    @Override
    public Void visitVariable(VariableTree node, Void none) {
      due(isAllowed(typeOf(node)), 3, node, "a type that is not of the language: " + typeOf(node));
      if (node.getModifiers().getFlags().contains(Modifier.STATIC)) {
        String type = typeOf(node).toString();
        due(node.getModifiers().getFlags().contains(Modifier.FINAL) && node.getInitializer() != null
            && Set.of("int", "long", "boolean", "char", "java.lang.String").contains(type)
            && ((VariableElement) elementOf(node)).getConstantValue() != null, 5, node, "static, and no constant");
      }
      return super.visitVariable(node, none);
    }

    @Override
    public Void visitMethodInvocation(MethodInvocationTree node, Void none) {
      Element called = elementOf(node.getMethodSelect());
      String owner = called.getEnclosingElement().toString();
      if (isOwn(called)) {
        boolean isMade = method != null && method.getName().contentEquals("<init>");
        due(!isMade, 12, node, "a constructor that calls a method");
        if (method != null) {
          String name = called.getEnclosingElement().getSimpleName() + "." + called.getSimpleName();
          calls.computeIfAbsent(methodName(), key -> new TreeSet<>()).add(name);
          due(!name.equals(methodName()) || isDepthGuarded(called, node), 8, node, "recursion without a depth");
        }
      } else if (!called.getSimpleName().contentEquals("<init>")) {
        due(LIBRARY.getOrDefault(owner, Set.of()).contains(called.getSimpleName().toString()), 4, node, "not of the "
            + "library: " + owner + "." + called.getSimpleName());
        for (ExpressionTree each : node.getArguments()) {
          TypeKind kind = typeOf(each).getKind();
          boolean isBroken = kind == TypeKind.FLOAT || kind == TypeKind.DOUBLE;
          due(!isBroken || !owner.equals("java.lang.Math"), 3, node, "Math on doubles");
          due(!owner.equals("java.util.Arrays") || !typeOf(each).toString().equals("boolean[]"), 4, node,
              "Arrays over what is no array of numbers");
        }
      }
      return super.visitMethodInvocation(node, none);
    }

    /** Whether a method that calls itself is private and static, and compares a number that rises with each call. */
    private boolean isDepthGuarded(Element called, MethodInvocationTree node) {
      boolean isCarried = false;
      for (int k = 0; k < node.getArguments().size(); k++) {
        String name = method.getParameters().get(k).getName().toString();
        isCarried |= node.getArguments().get(k).toString().equals(name + " + 1")
            && Pattern.compile("\\b" + name + " >=? [A-Z]").matcher(methodText).find();
      }
      return isCarried && called.getModifiers().containsAll(Set.of(Modifier.PRIVATE, Modifier.STATIC));
    }

    @Override
    public Void visitNewClass(NewClassTree node, Void none) {
      due(node.getClassBody() == null, 2, node, "an anonymous class");
      boolean isThrown = getCurrentPath().getParentPath().getLeaf() instanceof ThrowTree;
      due(loops == 0 || isThrown, 12, node, "an object made in a loop");
      String name = node.getIdentifier().toString();
      if (EXCEPTIONS.contains(name)) {
        due(node.getArguments().isEmpty() || node.getArguments().size() == 1
            && node.getArguments().get(0) instanceof LiteralTree, 6, node, "an exception without a written text");
      } else {
        due(isOwnType(typeOf(node)), 4, node, "an object of another class: " + name);
      }
      return super.visitNewClass(node, none);
    }

    @Override
    public Void visitNewArray(NewArrayTree node, Void none) {
      due(loops == 0, 12, node, "an array made in a loop");
      for (ExpressionTree length : node.getDimensions()) {
        due(isConstant(length), 7, node, "the length of an array is no constant: " + length);
      }
      return super.visitNewArray(node, none);
    }

    private boolean isConstant(ExpressionTree tree) {
      if (tree instanceof BinaryTree) {
        return isConstant(((BinaryTree) tree).getLeftOperand()) && isConstant(((BinaryTree) tree).getRightOperand());
      }
      if (tree instanceof IdentifierTree) {
        Element element = elementOf(tree);
        return element instanceof VariableElement && ((VariableElement) element).getConstantValue() != null;
      }
      return tree instanceof LiteralTree;
    }

    @Override
    public Void visitArrayAccess(ArrayAccessTree node, Void none) {
      new TreeScanner<Void, Void>() {
        @Override
        public Void visitIdentifier(IdentifierTree name, Void nothing) {
          due(isConstant(name) || isCompared(name.getName().toString()), 7, node, "the index " + name
              + " is not looked at");
          return null;
        }
      }.scan(node.getIndex(), null);
      return super.visitArrayAccess(node, none);
    }

    /** By the method itself, or by has(..), which tells whether a cell is one. */
    private boolean isCompared(String name) {
      return Pattern.compile("\\b" + name + " (<|<=|>|>=) |(<|<=|>|>=) " + name + "\\b|\\bhas\\(" + name + "\\)")
          .matcher(methodText).find();
    }

    private void divisor(Tree node, ExpressionTree divisor) {
      boolean isWritten = isConstant(divisor) && !divisor.toString().equals("0");
      String name = Pattern.quote(divisor.toString());
      boolean isTested = Pattern.compile("(?<![\\w.])" + name + " (==|!=|>|<=) 0").matcher(methodText).find();
      boolean isFloating = typeOf(divisor).getKind() == TypeKind.DOUBLE || typeOf(divisor).getKind() == TypeKind.FLOAT;
      boolean isNamed = isFloating && Set.of("MaxGarden.neededShare", "MaxGarden.meanOf").contains(methodName());
      due(isWritten || isTested || isNamed, 7, node, "the divisor " + divisor + " is not looked at");
    }

    @Override
    public Void visitBinary(BinaryTree node, Void none) {
      if (node.getKind() == Tree.Kind.DIVIDE || node.getKind() == Tree.Kind.REMAINDER) {
        divisor(node, node.getRightOperand());
      }
      TypeKind kind = typeOf(node).getKind();
      due(kind.isPrimitive(), 10, node, "texts joined by +");
      return super.visitBinary(node, none);
    }

    @Override
    public Void visitCompoundAssignment(CompoundAssignmentTree node, Void none) {
      if (node.getKind() == Tree.Kind.DIVIDE_ASSIGNMENT || node.getKind() == Tree.Kind.REMAINDER_ASSIGNMENT) {
        divisor(node, node.getExpression());
      }
      due(typeOf(node).getKind().isPrimitive(), 10, node, "texts joined by +=");
      return super.visitCompoundAssignment(node, none);
    }

    @Override
    public Void visitTypeCast(TypeCastTree node, Void none) {
      due(typeOf(node.getType()).getKind().isPrimitive(), 7, node, "a cast to " + node.getType());
      return super.visitTypeCast(node, none);
    }

    @Override
    public Void visitThrow(ThrowTree node, Void none) {
      boolean isMade = method != null && method.getName().contentEquals("<init>");
      due(!isMade, 6, node, "a throw in a constructor");
      due(node.getExpression() instanceof NewClassTree
          && EXCEPTIONS.contains(((NewClassTree) node.getExpression()).getIdentifier().toString()), 6, node,
          "throws " + node.getExpression());
      return super.visitThrow(node, none);
    }

    @Override
    public Void visitForLoop(ForLoopTree node, Void none) {
      due(node.getCondition() != null && !node.getUpdate().isEmpty(), 9, node, "a loop without an end");
      loops++;
      super.visitForLoop(node, none);
      loops--;
      return null;
    }

    /** A while goes on by a counter that each turn of it moves. */
    @Override
    public Void visitWhileLoop(WhileLoopTree node, Void none) {
      String body = node.getStatement().toString();
      due(Pattern.compile("\\b\\w+(--|\\+\\+)").matcher(body).find(), 9, node, "a loop without a counter");
      loops++;
      super.visitWhileLoop(node, none);
      loops--;
      return null;
    }

    @Override
    public Void visitDoWhileLoop(DoWhileLoopTree node, Void none) {
      due(false, 9, node, "do is not looked at by this test");
      return super.visitDoWhileLoop(node, none);
    }

    @Override
    public Void visitEnhancedForLoop(EnhancedForLoopTree node, Void none) {
      due(typeOf(node.getExpression()).getKind() == TypeKind.ARRAY, 10, node, "a loop over what is no array");
      loops++;
      super.visitEnhancedForLoop(node, none);
      loops--;
      return null;
    }

    @Override
    public Void visitLiteral(LiteralTree node, Void none) {
      if (node.getValue() instanceof String) {
        due(((String) node.getValue()).chars().allMatch(sign -> sign >= 1 && sign <= 127), 4, node, "a far sign");
      }
      return super.visitLiteral(node, none);
    }

    @Override
    public Void visitMemberSelect(MemberSelectTree node, Void none) {
      due(!Set.of("getMessage", "hashCode", "toString", "getClass").contains(node.getIdentifier().toString()), 6, node,
          "use of " + node.getIdentifier());
      return super.visitMemberSelect(node, none);
    }

    @Override
    public Void visitLambdaExpression(LambdaExpressionTree node, Void none) {
      due(false, 2, node, "a lambda");
      return super.visitLambdaExpression(node, none);
    }

    @Override
    public Void visitMemberReference(MemberReferenceTree node, Void none) {
      due(false, 2, node, "a method reference");
      return super.visitMemberReference(node, none);
    }

    @Override
    public Void visitTry(TryTree node, Void none) {
      due(false, 6, node, "try is not looked at by this test");
      return super.visitTry(node, none);
    }

    @Override
    public Void visitSynchronized(SynchronizedTree node, Void none) {
      due(false, 6, node, "synchronized");
      return super.visitSynchronized(node, none);
    }

    @Override
    public Void visitAssert(AssertTree node, Void none) {
      due(false, 6, node, "assert");
      return super.visitAssert(node, none);
    }

    @Override
    public Void visitSwitch(SwitchTree node, Void none) {
      due(typeOf(node.getExpression()).getKind().isPrimitive(), 10, node, "a switch on what is no number");
      return super.visitSwitch(node, none);
    }
  }
}
