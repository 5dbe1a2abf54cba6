import java.io.IOException;
import java.lang.reflect.Method;
import java.nio.file.Files;
import java.nio.file.Path;
import java.util.regex.Matcher;
import java.util.regex.Pattern;
import javax.tools.ToolProvider;

/** README.md tells what is so: its example is compiled and answers as it says, and it names each call of the face. */
public final class ReadmeTest {
  private static final Pattern ROW = Pattern.compile("(x\\.\\w+\\(.*?\\)); +// (true|false|-?\\d+).*");

  private static int wrong = 0;

  public static void main(String[] args) throws IOException, InterruptedException {
    String readme = Files.readString(Path.of("README.md"));
    for (Method method : PieceFiles.class.getDeclaredMethods()) {
      boolean isPublic = java.lang.reflect.Modifier.isPublic(method.getModifiers());
      check(!isPublic || readme.contains("`" + method.getName() + "`"), method.getName() + " is not in README.md");
    }
    Path made = Files.createTempDirectory("readme");
    Path source = made.resolve("Example.java");
    Files.writeString(source, program(readme.split("```")[1].substring("java".length())));
    String path = System.getProperty("java.class.path");
    int compiled = ToolProvider.getSystemJavaCompiler().run(null, null, null, "-cp", path, "-d", made.toString(), source.toString());
    check(compiled == 0, "the example does not compile");
    String java = Path.of(System.getProperty("java.home"), "bin", "java").toString();
    int ended = new ProcessBuilder(java, "-cp", path + System.getProperty("path.separator") + made, "Example").inheritIO()
        .start().waitFor();
    check(ended == 0, "the example answers something else");
    for (String name : made.toFile().list()) {
      Files.delete(made.resolve(name));
    }
    Files.delete(made);
    System.exit(wrong == 0 ? 0 : 1);
  }

  /** Each row whose comment begins with an answer is held against it. */
  private static String program(String example) {
    StringBuilder all = new StringBuilder("public class Example {\n  public static void main(String[] args) {\n");
    int held = 0;
    for (String row : example.split("\n")) {
      Matcher m = ROW.matcher(row);
      if (m.matches()) {
        held++;
        all.append("due(\"").append(m.group(1)).append("\", String.valueOf(").append(m.group(1)).append("), \"");
        all.append(m.group(2)).append("\");\n");
      } else {
        all.append(row).append('\n');
      }
    }
    check(held == 13, held + " rows of the example tell an answer");
    all.append("try {\n x.acts();\n System.exit(1);\n} catch (IllegalArgumentException e) {\n due(\"why\", x.why() + \"\", \"4\");\n}\n");
    all.append("}\nstatic void due(String call, String got, String due) {\nif (!got.equals(due)) {\n");
    all.append("System.out.println(call + \" is \" + got + \", due is \" + due);\nSystem.exit(1);\n}\n}\n}\n");
    return all.toString();
  }

  private static void check(boolean right, String text) {
    if (!right) {
      wrong++;
      System.out.println(text);
    }
  }
}
