import com.sun.source.tree.ClassTree;
import com.sun.source.tree.CompilationUnitTree;
import com.sun.source.tree.LambdaExpressionTree;
import com.sun.source.tree.MemberReferenceTree;
import com.sun.source.tree.MethodInvocationTree;
import com.sun.source.tree.MethodTree;
import com.sun.source.tree.NewClassTree;
import com.sun.source.tree.ThrowTree;
import com.sun.source.tree.TryTree;
import com.sun.source.tree.VariableTree;
import com.sun.source.util.JavacTask;
import com.sun.source.util.TreePathScanner;
import com.sun.source.util.Trees;
import java.io.IOException;
import java.nio.file.Path;
import java.util.ArrayList;
import java.util.HashSet;
import java.util.LinkedHashMap;
import java.util.List;
import java.util.Map;
import java.util.Set;
import java.util.TreeSet;
import javax.lang.model.element.Element;
import javax.lang.model.element.ElementKind;
import javax.lang.model.element.Modifier;
import javax.lang.model.element.NestingKind;
import javax.lang.model.element.TypeElement;
import javax.tools.JavaCompiler;
import javax.tools.StandardJavaFileManager;
import javax.tools.ToolProvider;

/**
 * What of ../shared/LANGUAGE.md the compiler's own view of the class tells: who calls whom, what of
 * the library is used, and how large the classes are. LanguageTest looks at the lines.
 */
public final class StructureTest extends TreePathScanner<Void, Void> {
  private static final Path SOURCE = Path.of("src/main/java/SetFamilies.java");
  private static final int MOST_DEPTH = 8;
  private static final int MOST_CLASSES = 12;
  private static final int MOST_FIELDS = 20;
  /** Of rule 4, what the class uses; more may stand here if the rule has it. */
  private static final Set<String> LIBRARY = Set.of("java.lang.Integer.bitCount", "java.lang.Long.bitCount", "java.lang.Math.max",
      "java.lang.Math.min", "java.lang.System.arraycopy", "java.util.Arrays.fill");
  private static final Set<String> EXCEPTIONS = Set.of("java.lang.IllegalStateException", "java.lang.IllegalArgumentException",
      "java.lang.IndexOutOfBoundsException");

  private final Trees trees;
  private final Map<Element, Set<Element>> calls = new LinkedHashMap<>();
  private final Map<String, Integer> fields = new LinkedHashMap<>();
  private Element method;

  private StructureTest(Trees trees) {
    this.trees = trees;
  }

  public static void main(String[] args) throws IOException {
    JavaCompiler compiler = ToolProvider.getSystemJavaCompiler();
    try (StandardJavaFileManager files = compiler.getStandardFileManager(null, null, null)) {
      JavacTask task = (JavacTask) compiler.getTask(null, files, null, List.of(), null, files.getJavaFileObjects(SOURCE));
      List<CompilationUnitTree> units = new ArrayList<>();
      task.parse().forEach(units::add);
      task.analyze();
      StructureTest test = new StructureTest(Trees.instance(task));
      units.forEach(unit -> test.scan(unit, null));
      test.tellSizes();
      test.tellDepth();
    }
    Check.end();
  }

  // ---- looking

  @Override
  public Void visitClass(ClassTree tree, Void none) {
    Element outer = method;
    TypeElement kind = (TypeElement) trees.getElement(getCurrentPath());
    Check.about(kind.toString());
    boolean isWhole = kind.getNestingKind() == NestingKind.TOP_LEVEL;
    Check.yes("rule 2: no local or anonymous class", isWhole || kind.getNestingKind() == NestingKind.MEMBER);
    Check.yes("rule 1: a class inside is static", isWhole || kind.getModifiers().contains(Modifier.STATIC));
    fields.put(kind.toString(), 0);
    method = null;
    super.visitClass(tree, none);
    method = outer;
    return null;
  }

  @Override
  public Void visitMethod(MethodTree tree, Void none) {
    method = trees.getElement(getCurrentPath());
    calls.putIfAbsent(method, new HashSet<>());
    Check.about(method.getEnclosingElement() + "." + method);
    Check.yes("rule 11: few parameters", tree.getParameters().size() <= 7);
    super.visitMethod(tree, none);
    method = null;
    return null;
  }

  @Override
  public Void visitVariable(VariableTree tree, Void none) {
    Element variable = trees.getElement(getCurrentPath());
    if (variable.getKind() == ElementKind.FIELD) {
      boolean isStatic = variable.getModifiers().contains(Modifier.STATIC);
      Check.about(variable.getEnclosingElement() + "." + variable);
      Check.yes("rule 5: a static field is final", !isStatic || variable.getModifiers().contains(Modifier.FINAL));
      fields.merge(variable.getEnclosingElement().toString(), isStatic ? 0 : 1, Integer::sum);
    }
    return super.visitVariable(tree, none);
  }

  @Override
  public Void visitMethodInvocation(MethodInvocationTree tree, Void none) {
    called(trees.getElement(getCurrentPath()));
    return super.visitMethodInvocation(tree, none);
  }

  @Override
  public Void visitNewClass(NewClassTree tree, Void none) {
    called(trees.getElement(getCurrentPath()));
    return super.visitNewClass(tree, none);
  }

  @Override
  public Void visitThrow(ThrowTree tree, Void none) {
    Check.yes("rule 6: no throw in a constructor", method.getKind() == ElementKind.METHOD);
    return super.visitThrow(tree, none);
  }

  @Override
  public Void visitTry(TryTree tree, Void none) {
    Check.no("no call of the class needs a try", true);
    return super.visitTry(tree, none);
  }

  @Override
  public Void visitLambdaExpression(LambdaExpressionTree tree, Void none) {
    Check.no("rule 2: a lambda", true);
    return super.visitLambdaExpression(tree, none);
  }

  @Override
  public Void visitMemberReference(MemberReferenceTree tree, Void none) {
    Check.no("rule 2: a method reference", true);
    return super.visitMemberReference(tree, none);
  }

  private void called(Element target) {
    if (method != null) {
      calls.get(method).add(target);
    }
    String owner = target.getEnclosingElement().toString();
    if (owner.startsWith("SetFamilies") || owner.equals("java.lang.Object")) {
      return;
    }
    boolean made = target.getKind() == ElementKind.CONSTRUCTOR;
    Check.yes("rules 4 and 6: " + owner + "." + target + " may be used",
        made ? EXCEPTIONS.contains(owner) : LIBRARY.contains(owner + "." + target.getSimpleName()));
  }

  // ---- telling

  private void tellSizes() {
    Check.about("rule 11");
    Check.yes("the class is seen with its inner ones", fields.size() > 1 && calls.size() > 31);
    Check.yes("at most twelve classes, there are " + fields.keySet(), fields.size() <= MOST_CLASSES);
    fields.forEach((kind, count) -> Check.yes(count + " fields of " + kind + " are few", count <= MOST_FIELDS));
  }

  private void tellDepth() {
    Map<Element, Integer> known = new LinkedHashMap<>();
    for (Element each : calls.keySet()) {
      Check.about("rules 8 and 11");
      int depth = depthOf(each, known, new TreeSet<>());
      Check.yes(each + " goes " + depth + " deep, the library's calls among them", depth <= MOST_DEPTH);
    }
  }

  /** The class has no recursion, so each chain of calls has an end. */
  private int depthOf(Element each, Map<Element, Integer> known, Set<String> open) {
    if (known.containsKey(each)) {
      return known.get(each);
    }
    String name = each.getEnclosingElement() + "." + each;
    if (!open.add(name)) {
      Check.no(name + " calls itself", true);
      return 0;
    }
    int below = 0;
    for (Element target : calls.getOrDefault(each, Set.of())) {
      below = Math.max(below, depthOf(target, known, open));
    }
    open.remove(name);
    known.put(each, below + 1);
    return below + 1;
  }
}
