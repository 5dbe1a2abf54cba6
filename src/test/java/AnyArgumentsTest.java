import java.lang.reflect.InvocationTargetException;
import java.lang.reflect.Method;
import java.util.Arrays;
import java.util.Comparator;
import java.util.List;
import java.util.Random;

/** Whatever the arguments and the state are, a call throws nothing but what the face tells of it (LANGUAGE.md, rule 7). */
public final class AnyArgumentsTest {
  private static final int RUNS = 600;
  // Beyond the 512th call answers are free, but the machine must not throw even there.
  private static final int CALLS = 700;
  private static final int[] FAR = {Integer.MIN_VALUE, Integer.MIN_VALUE + 1, -401, -60, -1, 0, 1, 8, 9, 39, 40, 41, 60, 61,
    399, 400, 401, 599, 600, 601, Integer.MAX_VALUE - 1, Integer.MAX_VALUE};
  private static final String SIGNS = "\"\"\"\\\\,,\n\n<>&=:# nta=lt;amp;kind0 inner1 swap 01;lock b";

  public static void main(String[] args) throws IllegalAccessException {
    Method[] face = PieceFiles.class.getMethods();
    face = Arrays.stream(face).filter(m -> m.getDeclaringClass() == PieceFiles.class).toArray(Method[]::new);
    Arrays.sort(face, Comparator.comparing(Method::getName));
    int wrong = 0;
    for (int run = 0; run < RUNS && wrong == 0; run++) {
      Random random = new Random(run);
      PieceFiles x = new PieceFiles();
      for (int i = 0; i < CALLS && wrong == 0; i++) {
        Method method = face[random.nextInt(face.length)];
        if (random.nextInt(3) == 0) {
          feedSome(x, random);
        }
        wrong += call(x, method, random, "run " + run + ", call " + i) ? 0 : 1;
      }
    }
    System.exit(wrong == 0 ? 0 : 1);
  }

  private static void feedSome(PieceFiles x, Random random) {
    int times = random.nextInt(4) == 0 ? 21 : random.nextInt(4);
    for (int i = 0; i < times; i++) {
      x.feed(four(random), four(random), four(random), four(random), four(random));
    }
  }

  private static int four(Random random) {
    int number = 0;
    for (int i = 0; i < 4; i++) {
      boolean any = random.nextInt(9) == 0;
      number = number << 8 | (any ? random.nextInt(256) : SIGNS.charAt(random.nextInt(SIGNS.length())));
    }
    return number;
  }

  private static boolean call(PieceFiles x, Method method, Random random, String where) throws IllegalAccessException {
    Object[] given = new Object[method.getParameterCount()];
    for (int i = 0; i < given.length; i++) {
      boolean near = random.nextInt(3) > 0;
      given[i] = method.getParameterTypes()[i] == boolean.class ? (Object) random.nextBoolean()
          : (Object) (near ? random.nextInt(5) : FAR[random.nextInt(FAR.length)]);
    }
    try {
      method.invoke(x, given);
      return true;
    } catch (InvocationTargetException e) {
      // What the machine throws is a class below the one that is told, or another one.
      boolean told = List.of(method.getExceptionTypes()).contains(e.getCause().getClass());
      if (!told) {
        System.out.println(where + ": " + method.getName() + Arrays.toString(given) + " throws " + e.getCause());
      }
      return told;
    }
  }
}
