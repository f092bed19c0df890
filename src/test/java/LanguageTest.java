import com.sun.source.tree.BinaryTree;
import com.sun.source.tree.BlockTree;
import com.sun.source.tree.ClassTree;
import com.sun.source.tree.CompilationUnitTree;
import com.sun.source.tree.CompoundAssignmentTree;
import com.sun.source.tree.ConditionalExpressionTree;
import com.sun.source.tree.DoWhileLoopTree;
import com.sun.source.tree.EnhancedForLoopTree;
import com.sun.source.tree.ExpressionTree;
import com.sun.source.tree.ForLoopTree;
import com.sun.source.tree.LiteralTree;
import com.sun.source.tree.MethodInvocationTree;
import com.sun.source.tree.MethodTree;
import com.sun.source.tree.NewArrayTree;
import com.sun.source.tree.NewClassTree;
import com.sun.source.tree.Tree;
import com.sun.source.tree.TypeCastTree;
import com.sun.source.tree.VariableTree;
import com.sun.source.tree.WhileLoopTree;
import com.sun.source.util.JavacTask;
import com.sun.source.util.TreePath;
import com.sun.source.util.TreePathScanner;
import com.sun.source.util.Trees;
import java.nio.file.Files;
import java.nio.file.Path;
import java.util.ArrayList;
import java.util.HashMap;
import java.util.List;
import java.util.Map;
import java.util.Set;
import java.util.TreeSet;
import javax.lang.model.element.Element;
import javax.lang.model.element.ElementKind;
import javax.lang.model.element.Modifier;
import javax.lang.model.element.TypeElement;
import javax.lang.model.type.ArrayType;
import javax.lang.model.type.DeclaredType;
import javax.lang.model.type.TypeKind;
import javax.lang.model.type.TypeMirror;
import javax.tools.JavaCompiler;
import javax.tools.StandardJavaFileManager;
import javax.tools.ToolProvider;

/**
 * The source keeps to LANGUAGE.md, as the compiler's own tree of it tells. It is held to less than the rules
 * leave: what the class does without (exceptions, lists, texts, enums, records) is not let in unseen.
 */
public final class LanguageTest extends TreePathScanner<Void, Void> {
  private static final Path SOURCE = Path.of("src/main/java/CutInCopies.java");
  private static final Set<String> LIBRARY = Set.of("System.arraycopy(java.lang.Object,int,java.lang.Object,int,int)",
      "Math.abs(int)", "Math.abs(long)", "Math.min(int,int)", "Math.max(int,int)", "Math.min(long,long)",
      "Math.max(long,long)", "Object.Object()");
  private static final Set<Tree.Kind> RULED_OUT = Set.of(Tree.Kind.IMPORT, Tree.Kind.PACKAGE, Tree.Kind.THROW,
      Tree.Kind.TRY, Tree.Kind.CATCH, Tree.Kind.SYNCHRONIZED, Tree.Kind.ASSERT, Tree.Kind.LAMBDA_EXPRESSION,
      Tree.Kind.MEMBER_REFERENCE, Tree.Kind.INSTANCE_OF, Tree.Kind.ANNOTATION, Tree.Kind.PARAMETERIZED_TYPE,
      Tree.Kind.ENUM, Tree.Kind.RECORD, Tree.Kind.INTERFACE, Tree.Kind.ANNOTATION_TYPE);
  private static final Set<TypeKind> CONSTANTS = Set.of(TypeKind.INT, TypeKind.LONG, TypeKind.BOOLEAN, TypeKind.CHAR);
  private static final Set<TypeKind> CONSTANT_ROWS = Set.of(TypeKind.INT, TypeKind.LONG, TypeKind.CHAR, TypeKind.BYTE);
  private static final int MOST_CLASSES = 12;
  private static final int MOST_FIELDS = 20;
  private static final int MOST_PARAMETERS = 7;
  private static final int MOST_LINES = 60;
  private static final int DEEPEST = 8;
  private static final Due due = new Due();

  private final Trees trees;
  private final CompilationUnitTree unit;
  private final TypeElement outer;
  private final Set<String> publicNames = new TreeSet<>();
  private final Map<Element, Set<Element>> calls = new HashMap<>();
  private int classes = 0;
  private int loops = 0;

  private LanguageTest(Trees trees, CompilationUnitTree unit) {
    this.trees = trees;
    this.unit = unit;
    outer = (TypeElement) trees.getElement(trees.getPath(unit, unit.getTypeDecls().get(0)));
    for (Element member : outer.getEnclosedElements()) {
      if (member.getKind() == ElementKind.METHOD && member.getModifiers().contains(Modifier.PUBLIC)) {
        publicNames.add(member.getSimpleName().toString());
      }
    }
  }

  public static void main(String[] args) throws Exception {
    due.is("signs above 127", Files.readString(SOURCE).chars().filter(sign -> sign > 127).count(), 0);
    JavaCompiler compiler = ToolProvider.getSystemJavaCompiler();
    try (StandardJavaFileManager files = compiler.getStandardFileManager(null, null, null)) {
      JavacTask task = (JavacTask) compiler.getTask(null, files, null, List.of("-proc:none"), null,
          files.getJavaFileObjects(SOURCE));
      CompilationUnitTree unit = task.parse().iterator().next();
      task.analyze();
      due.is("types of the file", unit.getTypeDecls().size(), 1);
      LanguageTest test = new LanguageTest(Trees.instance(task), unit);
      test.scan(unit, null);
      test.wholeFile();
    }
    due.end();
  }

  private void wholeFile() {
    due.is("classes are some twelve", classes <= MOST_CLASSES ? 1 : 0, 1);
    due.is("loops were seen", loops > 20 ? 1 : 0, 1);
    for (Element method : calls.keySet()) {
      due.is("calls stand open in " + told(method), depth(method, new ArrayList<>()) <= DEEPEST ? 1 : 0, 1);
    }
  }

  private void is(String what, Tree where, boolean so) {
    long line = unit.getLineMap().getLineNumber(trees.getSourcePositions().getStartPosition(unit, where));
    due.is("line " + line + ": " + what, so ? 1 : 0, 1);
  }

  private Element element() {
    return trees.getElement(getCurrentPath());
  }

  private TypeMirror typeOf(Tree tree) {
    return trees.getTypeMirror(new TreePath(getCurrentPath(), tree));
  }

  private boolean isOwn(Element element) {
    Element around = element;
    while (around != null && around != outer) {
      around = around.getEnclosingElement();
    }
    return around == outer;
  }

  private static String told(Element method) {
    return method.getEnclosingElement().getSimpleName() + "." + method;
  }

  // ---- rules 1, 2, 5, 6, 11: classes, fields, methods

  @Override
  public Void scan(Tree tree, Void nothing) {
    if (tree != null) {
      is("not " + tree.getKind(), tree, !RULED_OUT.contains(tree.getKind()));
    }
    return super.scan(tree, nothing);
  }

  @Override
  public Void visitClass(ClassTree tree, Void nothing) {
    classes++;
    int fields = 0;
    for (Tree member : tree.getMembers()) {
      is("no block of its own in a class", member, !(member instanceof BlockTree));
      boolean isField = member instanceof VariableTree;
      fields += isField && !((VariableTree) member).getModifiers().getFlags().contains(Modifier.STATIC) ? 1 : 0;
    }
    is("some twenty fields", tree, fields <= MOST_FIELDS);
    Element made = element();
    if (made != outer) {
      is("static and right inside", tree,
          made.getModifiers().contains(Modifier.STATIC) && made.getEnclosingElement() == outer);
    }
    return super.visitClass(tree, nothing);
  }

  @Override
  public Void visitVariable(VariableTree tree, Void nothing) {
    Element variable = element();
    is("type of " + tree.getName(), tree, isTaken(variable.asType()));
    if (variable.getModifiers().contains(Modifier.STATIC)) {
      TypeMirror type = variable.asType();
      boolean row = type.getKind() == TypeKind.ARRAY
          && CONSTANT_ROWS.contains(((ArrayType) type).getComponentType().getKind())
          && tree.getInitializer() instanceof NewArrayTree
          && ((NewArrayTree) tree.getInitializer()).getInitializers() != null;
      boolean constant = CONSTANTS.contains(type.getKind()) || type.toString().equals("java.lang.String");
      is("static is constant: " + tree.getName(), tree,
          variable.getModifiers().contains(Modifier.FINAL) && (row || constant));
    }
    return super.visitVariable(tree, nothing);
  }

  @Override
  public Void visitMethod(MethodTree tree, Void nothing) {
    Element method = element();
    String name = tree.getName().toString();
    calls.computeIfAbsent(method, none -> new java.util.HashSet<>());
    is("private by a name of the face: " + name, tree,
        !method.getModifiers().contains(Modifier.PRIVATE) || !publicNames.contains(name));
    is("none of " + name + " of its own", tree, !Set.of("equals", "hashCode", "toString").contains(name));
    is("parameters of " + name, tree, tree.getParameters().size() <= MOST_PARAMETERS);
    is("no exceptions of " + name, tree, tree.getThrows().isEmpty());
    is("answer of " + name, tree, tree.getReturnType() == null || tree.getReturnType().toString().equals("void")
        || isTaken(typeOf(tree.getReturnType())));
    long begin = trees.getSourcePositions().getStartPosition(unit, tree);
    long end = trees.getSourcePositions().getEndPosition(unit, tree);
    long lines = unit.getLineMap().getLineNumber(end) - unit.getLineMap().getLineNumber(begin) + 1;
    // Constructors that aren't written have no lines.
    is("lines of " + name, tree, end < 0 || lines <= MOST_LINES);
    return super.visitMethod(tree, nothing);
  }

  // ---- rule 3: types

  private boolean isTaken(TypeMirror type) {
    if (type.getKind() == TypeKind.ARRAY) {
      TypeMirror part = ((ArrayType) type).getComponentType();
      boolean rows = part.getKind() == TypeKind.ARRAY && ((ArrayType) part).getComponentType().getKind().isPrimitive();
      return rows || part.getKind() != TypeKind.ARRAY && isTaken(part);
    }
    return type.getKind().isPrimitive() || type.toString().equals("java.lang.String")
        || type.getKind() == TypeKind.DECLARED && isOwn(((DeclaredType) type).asElement());
  }

  @Override
  public Void visitLiteral(LiteralTree tree, Void nothing) {
    if (tree.getValue() instanceof String) {
      is("signs of a text", tree, ((String) tree.getValue()).chars().allMatch(sign -> sign >= 1 && sign <= 127));
    }
    return super.visitLiteral(tree, nothing);
  }

  @Override
  public Void visitTypeCast(TypeCastTree tree, Void nothing) {
    is("cast of a number", tree,
        typeOf(tree.getType()).getKind().isPrimitive() && typeOf(tree.getExpression()).getKind().isPrimitive());
    return super.visitTypeCast(tree, nothing);
  }

  @Override
  public Void visitBinary(BinaryTree tree, Void nothing) {
    TypeMirror one = typeOf(tree.getLeftOperand());
    TypeMirror other = typeOf(tree.getRightOperand());
    boolean texts = one.toString().equals("java.lang.String") || other.toString().equals("java.lang.String");
    boolean floats = isFloat(one) || isFloat(other);
    is("no texts joined or told apart by signs", tree, !texts);
    is("no remainder of floats", tree, !floats || tree.getKind() != Tree.Kind.REMAINDER);
    boolean divides = tree.getKind() == Tree.Kind.DIVIDE || tree.getKind() == Tree.Kind.REMAINDER;
    if (divides && !floats) {
      is("divisor is looked at first", tree, isConstant(tree.getRightOperand()) || isLookedAt(tree.getRightOperand()));
    }
    return super.visitBinary(tree, nothing);
  }

  @Override
  public Void visitCompoundAssignment(CompoundAssignmentTree tree, Void nothing) {
    is("no division in one with an assignment", tree,
        tree.getKind() != Tree.Kind.DIVIDE_ASSIGNMENT && tree.getKind() != Tree.Kind.REMAINDER_ASSIGNMENT);
    is("no text grows by an assignment", tree, typeOf(tree.getVariable()).getKind().isPrimitive());
    return super.visitCompoundAssignment(tree, nothing);
  }

  private static boolean isFloat(TypeMirror type) {
    return type.getKind() == TypeKind.FLOAT || type.getKind() == TypeKind.DOUBLE;
  }

  private boolean isConstant(ExpressionTree divisor) {
    if (divisor instanceof LiteralTree) {
      return !divisor.toString().equals("0");
    }
    Element named = trees.getElement(new TreePath(getCurrentPath(), divisor));
    return named instanceof javax.lang.model.element.VariableElement constant
        && constant.getConstantValue() instanceof Number && ((Number) constant.getConstantValue()).longValue() != 0;
  }

  /** Whether a condition round this place tells that this variable is not 0, or above a number. */
  private boolean isLookedAt(ExpressionTree divisor) {
    String looked = "\\b" + divisor + " (!=|>) \\d";
    for (TreePath path = getCurrentPath(); path != null; path = path.getParentPath()) {
      Tree around = path.getLeaf();
      String condition = around instanceof ForLoopTree ? ((ForLoopTree) around).getCondition().toString()
          : around instanceof ConditionalExpressionTree ? ((ConditionalExpressionTree) around).getCondition().toString()
          : "";
      if (java.util.regex.Pattern.compile(looked).matcher(condition).find()) {
        return true;
      }
    }
    return false;
  }

  // ---- rule 4: the library

  @Override
  public Void visitMethodInvocation(MethodInvocationTree tree, Void nothing) {
    reached(tree);
    return super.visitMethodInvocation(tree, nothing);
  }

  @Override
  public Void visitNewClass(NewClassTree tree, Void nothing) {
    is("no class without a name", tree, tree.getClassBody() == null);
    reached(tree);
    return super.visitNewClass(tree, nothing);
  }

  private void reached(Tree tree) {
    Element method = element();
    if (isOwn(method)) {
      calls.computeIfAbsent(around(), none -> new java.util.HashSet<>()).add(method);
      is("what is over it is not called", tree, !method.getModifiers().contains(Modifier.ABSTRACT));
    } else {
      is("listed: " + told(method), tree, LIBRARY.contains(told(method)));
    }
  }

  /** The method (or, of a field that is made so, the class) in which this stands. */
  private Element around() {
    for (TreePath path = getCurrentPath(); path != null; path = path.getParentPath()) {
      if (path.getLeaf() instanceof MethodTree) {
        return trees.getElement(path);
      }
    }
    return outer;
  }

  @Override
  public Void visitNewArray(NewArrayTree tree, Void nothing) {
    for (ExpressionTree length : tree.getDimensions()) {
      is("length of a new row is a constant", length, length.toString().matches("[A-Z_]+( [+*] ([A-Z_]+|\\d+))?"));
    }
    return super.visitNewArray(tree, nothing);
  }

  // ---- rules 8, 9, 11: what ends

  /** How many calls stand open below a call of it; a method that calls itself must be private and static. */
  private int depth(Element method, List<Element> open) {
    if (open.contains(method)) {
      boolean itself = open.get(open.size() - 1) == method;
      boolean alone = itself && method.getModifiers().containsAll(Set.of(Modifier.PRIVATE, Modifier.STATIC));
      due.is(told(method) + " may call itself", alone ? 1 : 0, 1);
      return 0;
    }
    open.add(method);
    int deepest = 0;
    for (Element called : calls.getOrDefault(method, Set.of())) {
      deepest = Math.max(deepest, depth(called, open));
    }
    open.remove(open.size() - 1);
    return deepest + 1;
  }

  @Override
  public Void visitWhileLoop(WhileLoopTree tree, Void nothing) {
    endsBy(tree, tree.getCondition());
    return super.visitWhileLoop(tree, nothing);
  }

  @Override
  public Void visitDoWhileLoop(DoWhileLoopTree tree, Void nothing) {
    endsBy(tree, tree.getCondition());
    return super.visitDoWhileLoop(tree, nothing);
  }

  @Override
  public Void visitForLoop(ForLoopTree tree, Void nothing) {
    endsBy(tree, tree.getCondition());
    return super.visitForLoop(tree, nothing);
  }

  @Override
  public Void visitEnhancedForLoop(EnhancedForLoopTree tree, Void nothing) {
    loops++;
    is("over a row", tree, typeOf(tree.getExpression()).getKind() == TypeKind.ARRAY);
    return super.visitEnhancedForLoop(tree, nothing);
  }

  /** A counter that grows in the loop stands against a bound in its condition, and nothing there lets it off. */
  private void endsBy(Tree loop, ExpressionTree condition) {
    loops++;
    String told = condition == null ? "" : condition.toString();
    is("not ended by one of two: " + told, loop, !told.contains("||"));
    boolean ends = false;
    java.util.regex.Matcher counter = java.util.regex.Pattern.compile("\\b([a-z]\\w*) <=? \\w").matcher(told);
    while (counter.find()) {
      ends |= loop.toString().contains(counter.group(1) + "++");
    }
    is("a counter against a bound: " + told, loop, ends);
  }
}
