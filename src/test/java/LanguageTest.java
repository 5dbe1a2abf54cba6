import com.sun.source.tree.AssertTree;
import com.sun.source.tree.BinaryTree;
import com.sun.source.tree.BlockTree;
import com.sun.source.tree.CatchTree;
import com.sun.source.tree.ClassTree;
import com.sun.source.tree.CompilationUnitTree;
import com.sun.source.tree.IfTree;
import com.sun.source.tree.ImportTree;
import com.sun.source.tree.LambdaExpressionTree;
import com.sun.source.tree.MemberReferenceTree;
import com.sun.source.tree.MethodInvocationTree;
import com.sun.source.tree.MethodTree;
import com.sun.source.tree.NewClassTree;
import com.sun.source.tree.SynchronizedTree;
import com.sun.source.tree.ThrowTree;
import com.sun.source.tree.Tree;
import com.sun.source.tree.TryTree;
import com.sun.source.tree.VariableTree;
import com.sun.source.tree.WhileLoopTree;
import com.sun.source.util.JavacTask;
import com.sun.source.util.TreePath;
import com.sun.source.util.TreePathScanner;
import com.sun.source.util.Trees;
import java.io.File;
import java.util.ArrayList;
import java.util.HashMap;
import java.util.HashSet;
import java.util.LinkedHashMap;
import java.util.LinkedHashSet;
import java.util.List;
import java.util.Map;
import java.util.Set;
import javax.lang.model.element.Element;
import javax.lang.model.element.ExecutableElement;
import javax.lang.model.element.Modifier;
import javax.lang.model.type.TypeKind;
import javax.lang.model.type.TypeMirror;
import javax.tools.JavaCompiler;
import javax.tools.StandardJavaFileManager;
import javax.tools.ToolProvider;

/** The program keeps to those rules of LANGUAGE.md that can be seen in its source. */
public final class LanguageTest {
  private static final String FILE = "src/main/java/PieceFiles.java";
  private static final Set<String> LIBRARY = Set.of(
      "java.lang.String.length", "java.lang.String.charAt", "java.lang.String.equals", "java.lang.Math.max",
      "java.lang.Math.min", "java.lang.System.arraycopy", "java.util.Arrays.fill", "java.util.Arrays.copyOf",
      "java.util.Arrays.copyOfRange");
  private static final Set<String> THROWN = Set.of("IllegalStateException", "IllegalArgumentException",
      "IndexOutOfBoundsException", "ArithmeticException", "UnsupportedOperationException", "NoSuchElementException",
      "RuntimeException");

  private static int wrong = 0;

  public static void main(String[] args) throws Exception {
    JavaCompiler compiler = ToolProvider.getSystemJavaCompiler();
    StandardJavaFileManager files = compiler.getStandardFileManager(null, null, null);
    JavacTask task = (JavacTask) compiler.getTask(null, files, null, List.of("-proc:none"), null,
        files.getJavaFileObjects(new File(FILE)));
    CompilationUnitTree unit = task.parse().iterator().next();
    task.analyze();
    Rules rules = new Rules(Trees.instance(task), unit);
    rules.scan(unit, null);
    rules.close();
    System.exit(wrong == 0 ? 0 : 1);
  }

  private static void fail(String text) {
    wrong++;
    System.out.println(text);
  }

  private static final class Rules extends TreePathScanner<Void, Void> {
    private final Trees trees;
    private final CompilationUnitTree unit;
    private final Map<String, Set<String>> calls = new LinkedHashMap<>();
    private final Map<String, Integer> depths = new HashMap<>();
    private final Map<String, String> deepest = new HashMap<>();
    private final Set<String> open = new HashSet<>();
    private int classes = 0;
    private String method = "";

    Rules(Trees trees, CompilationUnitTree unit) {
      this.trees = trees;
      this.unit = unit;
    }

    private long line(Tree tree) {
      return unit.getLineMap().getLineNumber(trees.getSourcePositions().getStartPosition(unit, tree));
    }

    private long lastLine(Tree tree) {
      return unit.getLineMap().getLineNumber(trees.getSourcePositions().getEndPosition(unit, tree));
    }

    private void refuse(int rule, String text, Tree tree) {
      fail("rule " + rule + ": " + text + ", line " + line(tree));
    }

    @Override
    public Void visitImport(ImportTree tree, Void none) {
      if (!tree.getQualifiedIdentifier().toString().matches("java\\.util\\.(NoSuchElementException|Arrays|ArrayList|List)")) {
        refuse(4, "an import", tree);
      }
      return super.visitImport(tree, none);
    }

    @Override
    public Void visitClass(ClassTree tree, Void none) {
      classes++;
      int fields = 0;
      for (Tree member : tree.getMembers()) {
        if (member instanceof BlockTree) {
          refuse(5, "an initialiser block", member);
        }
        if (member instanceof VariableTree) {
          Set<Modifier> flags = ((VariableTree) member).getModifiers().getFlags();
          fields += flags.contains(Modifier.STATIC) ? 0 : 1;
          if (flags.contains(Modifier.STATIC) && !flags.contains(Modifier.FINAL)) {
            refuse(5, "a static field that is not final", member);
          }
        }
      }
      if (fields > 20) {
        refuse(11, fields + " fields", tree);
      }
      if (classes > 1 && !tree.getModifiers().getFlags().contains(Modifier.STATIC)) {
        refuse(2, "a class inside that is not static", tree);
      }
      return super.visitClass(tree, none);
    }

    private static String name(Element element) {
      return element.getEnclosingElement() + "." + element;
    }

    @Override
    public Void visitMethod(MethodTree tree, Void none) {
      String before = method;
      method = name(trees.getElement(getCurrentPath()));
      calls.putIfAbsent(method, new LinkedHashSet<>());
      if (tree.getParameters().size() > 7) {
        refuse(11, "too many parameters", tree);
      }
      if (lastLine(tree) - line(tree) >= 60) {
        refuse(11, "a method of more than sixty lines", tree);
      }
      super.visitMethod(tree, none);
      method = before;
      return null;
    }

    private void addCall(Tree tree) {
      Element called = trees.getElement(getCurrentPath());
      if (!(called instanceof ExecutableElement)) {
        return;
      }
      String full = called.getEnclosingElement() + "." + called.getSimpleName();
      if (called.getEnclosingElement().toString().startsWith("PieceFiles")) {
        calls.computeIfAbsent(method, k -> new LinkedHashSet<>()).add(name(called));
      } else if (!(tree instanceof NewClassTree) && !LIBRARY.contains(full) && !full.equals("java.lang.Object.<init>")) {
        refuse(4, "a call of " + full, tree);
      }
    }

    @Override
    public Void visitMethodInvocation(MethodInvocationTree tree, Void none) {
      addCall(tree);
      return super.visitMethodInvocation(tree, none);
    }

    @Override
    public Void visitNewClass(NewClassTree tree, Void none) {
      String type = tree.getIdentifier().toString();
      boolean thrown = getCurrentPath().getParentPath().getLeaf() instanceof ThrowTree;
      Element made = trees.getElement(getCurrentPath());
      if (tree.getClassBody() != null) {
        refuse(2, "an anonymous class", tree);
      } else if (thrown ? !THROWN.contains(type) : !made.getEnclosingElement().toString().startsWith("PieceFiles")) {
        refuse(thrown ? 6 : 4, "an object of " + type, tree);
      }
      addCall(tree);
      return super.visitNewClass(tree, none);
    }

    @Override
    public Void visitThrow(ThrowTree tree, Void none) {
      if (!(tree.getExpression() instanceof NewClassTree)) {
        refuse(6, "a throw of what is not made there", tree);
      }
      if (method.contains("<init>") || method.matches("(.*\\.)?(\\w+)\\.\\2\\(.*")) {
        refuse(6, "a throw in a constructor", tree);
      }
      return super.visitThrow(tree, none);
    }

    @Override
    public Void visitTry(TryTree tree, Void none) {
      if (tree.getFinallyBlock() != null || !tree.getResources().isEmpty()) {
        refuse(6, "a finally or resources", tree);
      }
      return super.visitTry(tree, none);
    }

    @Override
    public Void visitCatch(CatchTree tree, Void none) {
      refuse(6, "a catch: none is needed here", tree);
      return super.visitCatch(tree, none);
    }

    @Override
    public Void visitLambdaExpression(LambdaExpressionTree tree, Void none) {
      refuse(2, "a lambda", tree);
      return super.visitLambdaExpression(tree, none);
    }

    @Override
    public Void visitMemberReference(MemberReferenceTree tree, Void none) {
      refuse(2, "a method reference", tree);
      return super.visitMemberReference(tree, none);
    }

    @Override
    public Void visitSynchronized(SynchronizedTree tree, Void none) {
      refuse(6, "synchronized", tree);
      return super.visitSynchronized(tree, none);
    }

    @Override
    public Void visitAssert(AssertTree tree, Void none) {
      refuse(6, "an assert", tree);
      return super.visitAssert(tree, none);
    }

    @Override
    public Void visitWhileLoop(WhileLoopTree tree, Void none) {
      refuse(9, "a while loop: a for loop shows its bound", tree);
      return super.visitWhileLoop(tree, none);
    }

    @Override
    public Void visitIf(IfTree tree, Void none) {
      if (!(tree.getThenStatement() instanceof BlockTree)) {
        refuse(10, "an if without a block", tree);
      }
      return super.visitIf(tree, none);
    }

    @Override
    public Void visitBinary(BinaryTree tree, Void none) {
      TypeMirror type = trees.getTypeMirror(getCurrentPath());
      if (tree.getKind() == Tree.Kind.PLUS && type != null && type.getKind() == TypeKind.DECLARED) {
        refuse(10, "texts joined by +", tree);
      }
      if (tree.getKind() == Tree.Kind.DIVIDE || tree.getKind() == Tree.Kind.REMAINDER) {
        refuse(7, "a division: look at its divisor, then let it pass here", tree);
      }
      return super.visitBinary(tree, none);
    }

    /** How many calls of the program stand open at once, at most, with this one. */
    private int depth(String from, List<String> path) {
      path.add(from);
      if (!open.add(from)) {
        fail("rule 8: a recursion: " + path);
        return 0;
      }
      Integer known = depths.get(from);
      int most = 0;
      if (known == null) {
        for (String next : calls.getOrDefault(from, Set.of())) {
          int below = depth(next, path);
          if (below > most) {
            most = below;
            deepest.put(from, next);
          }
        }
        known = most + 1;
        depths.put(from, known);
      }
      open.remove(from);
      path.remove(path.size() - 1);
      return known;
    }

    void close() {
      if (classes > 12) {
        fail("rule 11: " + classes + " classes");
      }
      for (String one : calls.keySet()) {
        int deep = depth(one, new ArrayList<>());
        if (deep > 8) {
          StringBuilder chain = new StringBuilder();
          for (String next = one; next != null; next = deepest.get(next)) {
            chain.append("\n    ").append(next);
          }
          fail("rule 11: " + deep + " calls deep: " + chain);
        }
      }
      TreePath path = new TreePath(unit);
      if (path.getCompilationUnit().getPackageName() != null) {
        fail("a package line");
      }
    }
  }
}
