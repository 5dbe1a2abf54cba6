import java.lang.reflect.Constructor;
import java.lang.reflect.Field;
import java.lang.reflect.Method;
import java.lang.reflect.Modifier;
import java.util.Arrays;
import java.util.TreeSet;

/** The class has the document's face and nothing else that others could see (LANGUAGE.md, rule 1). */
public final class FaceTest {
  private static final String[] FACE = {
    "int feed(int, int, int, int, int)", "boolean end(int)", "int acts() throws IllegalArgumentException",
    "int fault()", "int why()", "int file()", "int kind(int, boolean) throws IllegalArgumentException",
    "int rule(int, int) throws NoSuchElementException, IllegalArgumentException",
    "int lock() throws IllegalArgumentException, IllegalStateException", "int unlock()",
    "int tell(int) throws IllegalArgumentException, IllegalStateException",
    "int free(int) throws IllegalStateException", "int spread(int) throws IllegalStateException",
    "int swap(int, int) throws IllegalStateException", "int wipe() throws IllegalStateException",
    "int undo() throws IllegalStateException",
    "int piece(int, int) throws IndexOutOfBoundsException, NoSuchElementException",
    "int octet(int, int, boolean) throws IndexOutOfBoundsException",
    "int origin(int, int) throws IndexOutOfBoundsException",
    "int key(int, int) throws IndexOutOfBoundsException, NoSuchElementException", "int holder(int)",
    "int at(int, boolean)", "int like(int, int) throws IndexOutOfBoundsException",
    "int would(int) throws IndexOutOfBoundsException, IllegalArgumentException",
    "long found() throws IllegalArgumentException", "int memory(int, boolean, int)",
    "boolean kept(int) throws IndexOutOfBoundsException", "boolean twice()", "void image()", "boolean back()",
    "int count(int)"};

  private static int wrong = 0;

  public static void main(String[] args) {
    TreeSet<String> face = new TreeSet<>(Arrays.asList(FACE));
    TreeSet<String> names = new TreeSet<>();
    for (String one : FACE) {
      names.add(one.substring(one.indexOf(' ') + 1, one.indexOf('(')));
    }
    TreeSet<String> seen = new TreeSet<>();
    for (Method method : PieceFiles.class.getDeclaredMethods()) {
      if (!Modifier.isPrivate(method.getModifiers())) {
        StringBuilder text = new StringBuilder(method.getReturnType() + " " + method.getName() + "(");
        for (Class<?> type : method.getParameterTypes()) {
          text.append(text.charAt(text.length() - 1) == '(' ? "" : ", ").append(type);
        }
        text.append(")");
        for (Class<?> type : method.getExceptionTypes()) {
          text.append(text.charAt(text.length() - 1) == ')' ? " throws " : ", ").append(type.getSimpleName());
        }
        seen.add(text.toString());
        check(Modifier.isPublic(method.getModifiers()), method + " is not public");
      } else {
        check(!names.contains(method.getName()), method + " bears the name of a public method");
      }
    }
    check(seen.equals(face), "the face is " + seen);
    for (Field field : PieceFiles.class.getDeclaredFields()) {
      check(Modifier.isPrivate(field.getModifiers()) || field.getName().equals("NONE"), field + " is not private");
    }
    Constructor<?>[] made = PieceFiles.class.getDeclaredConstructors();
    check(made.length == 1 && Modifier.isPublic(made[0].getModifiers()) && made[0].getParameterCount() == 0,
        "the constructors are " + Arrays.toString(made));
    check(Modifier.isFinal(PieceFiles.class.getModifiers()), "the class is not final");
    Class<?>[] inside = PieceFiles.class.getDeclaredClasses();
    check(inside.length <= 11, "there are " + inside.length + " classes inside");
    for (Class<?> one : inside) {
      check(Modifier.isStatic(one.getModifiers()), one + " is not static");
      for (Method method : one.getDeclaredMethods()) {
        check(!names.contains(method.getName()), method + " bears the name of a public method");
      }
    }
    check(PieceFiles.NONE == -1, "NONE is " + PieceFiles.NONE);
    System.exit(wrong == 0 ? 0 : 1);
  }

  private static void check(boolean right, String text) {
    if (!right) {
      wrong++;
      System.out.println(text);
    }
  }
}
