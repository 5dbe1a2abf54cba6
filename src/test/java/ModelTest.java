import java.util.Random;
import java.util.function.LongSupplier;

/** Long runs of calls, drawn by fixed seeds, are answered as the plain model of the document answers them. */
public final class ModelTest {
  private static final int RUNS = 400;
  private static final int CALLS = 120;
  private static final String[][] BITS = {
    {"a=", "key = ", " b=x", "=", "#", "\n", "\n", "\\n", "\\t", "\\\\", "\\ ", "\\", " ", "lock", "ab=1", "\nlow = "},
    {"\"", "\"\"", ",", ",", "\n", "\"a,b\"", "x", "12", ",\"", "\",", "\"\"\"", " ", "q\"r"},
    {"<p>", "</b>", "<", ">", "&lt;", "&gt;", "&amp;", "&amp", "&", " ", "\n", "Hi", "<i>a</i>", "&lt", "t;"},
    {"\"", "\"a\"", "\\\"", "\\\\", "\\n", "\\t", "\\", ":", " :", "\n", " ", ",", "\"k\": \"v\"", "\"x\\\"y\""},
    {"a", "b", "Word", "zz", "1", "\u00e9", "\u0000", "\t", "ab", "x", "longer text here ", "\u00ff"}};
  private static final String[] ACT_BITS = {
    "kind", "inner", "plain", "letters", "any", "least", "lock", "unlock", "free", "spread", "swap", "wipe",
    "kind 0", "kind1", "kind 2", "kind 3", "inner 0", "inner 1", "inner 2", "inner3", "least 2", "least 40", "least 41",
    "least 0", "lock a", "lock ab", "lock key", "lock abcdefgh", "lock abcdefghi", "free 0", "free 1", "free 39", "free 40",
    "spread 0", "spread 1", "swap 0 1", "swap 1 0", "swap 0 0", "swap 00 02", "swap 1", "swap 0 100", "x", "7", "Kind 1", ",",
    "lock 3", "kind 007", "plain plain", "any", "letters", "unlock", "wipe", "kind 4"};

  private final Random random;
  private final PieceFiles x = new PieceFiles();
  private final PlainModel m = new PlainModel();
  private final StringBuilder story = new StringBuilder();
  // Half of the runs stay with one long file and tell it much, so that limits are met.
  private final boolean calm;
  private boolean wrong = false;

  private ModelTest(long seed) {
    random = new Random(seed);
    calm = seed % 2 == 0;
  }

  public static void main(String[] args) {
    int first = args.length > 0 ? Integer.parseInt(args[0]) : 1;
    int runs = args.length > 1 ? Integer.parseInt(args[1]) : RUNS;
    int failures = 0;
    for (int seed = first; seed < first + runs && failures < 3; seed++) {
      ModelTest test = new ModelTest(seed);
      test.begin();
      for (int i = 0; i < CALLS && !test.wrong; i++) {
        test.step();
      }
      if (test.wrong) {
        failures++;
        System.out.println("seed " + seed + "\n" + test.story);
      }
    }
    System.exit(failures == 0 ? 0 : 1);
  }

  private int pick(int n) {
    return random.nextInt(n);
  }

  private String bits(int least, int most, int kinds) {
    int want = least + pick(most - least + 1);
    StringBuilder text = new StringBuilder();
    while (text.length() < want) {
      int row = pick(3) == 0 ? 4 : kinds >= 0 && pick(5) > 0 ? kinds : pick(5);
      text.append(BITS[row][pick(BITS[row].length)]);
    }
    return text.substring(0, want);
  }

  private void tape(String text) {
    for (int i = 0; i < text.length() || i == 0; i += 20) {
      int[] numbers = new int[5];
      for (int j = 0; j < 20; j++) {
        int sign = i + j < text.length() ? text.charAt(i + j) : 0;
        numbers[j / 4] = numbers[j / 4] << 8 | sign;
      }
      same("feed", () -> x.feed(numbers[0], numbers[1], numbers[2], numbers[3], numbers[4]),
          () -> m.feed(numbers) ? m.tape.length() : -1);
    }
    int n = text.length();
    same("end " + n, () -> x.end(n) ? 1 : 0, () -> {
      boolean can = n <= m.tape.length();
      m.tape = can ? m.tape.substring(0, n) : m.tape;
      return can ? 1 : 0;
    });
    story.append("  tape ").append(shown(text)).append('\n');
  }

  private static String shown(String text) {
    StringBuilder all = new StringBuilder();
    for (char sign : text.toCharArray()) {
      all.append(sign >= 32 && sign < 127 && sign != '~' ? String.valueOf(sign) : "~" + (int) sign + "~");
    }
    return all.toString();
  }

  private static String answer(LongSupplier call) {
    try {
      return String.valueOf(call.getAsLong());
    } catch (IllegalStateException | IllegalArgumentException | IndexOutOfBoundsException
        | java.util.NoSuchElementException e) {
      // The machine's own exceptions are kinds of these: the class itself must be the one that is told.
      return e.getClass().getSimpleName();
    }
  }

  private void same(String call, LongSupplier mine, LongSupplier due) {
    String got = answer(mine);
    String want = answer(due);
    story.append("  ").append(call).append(" -> ").append(got).append('\n');
    if (!got.equals(want)) {
      story.append("  due is ").append(want).append('\n');
      wrong = true;
    }
  }

  private int number() {
    int n = m.pieces().size();
    return pick(8) == 0 ? pick(50) - 4 : n == 0 ? 0 : pick(n);
  }

  private String actText() {
    StringBuilder text = new StringBuilder();
    int many = pick(6) == 0 ? pick(17) : 1 + pick(3);
    for (int i = 0; i < many; i++) {
      text.append(pick(3) == 0 ? "  ".substring(pick(2)) : "");
      text.append(ACT_BITS[pick(4) == 0 ? pick(ACT_BITS.length) : 12 + pick(12)]);
      text.append(pick(4) == 0 ? " " : "");
      text.append(i + 1 < many || pick(10) == 0 ? ";" : "");
    }
    return text.substring(0, Math.min(400, text.length()));
  }

  /** Values that are often alike, in a file that each kind can cut. */
  private String longFile(int kind) {
    String[] values = {"ab", "zz", "a b", "Word", "x", "12", bits(1, 9, m.s.inner), bits(1, 70, kind)};
    String[] ahead = {"k=", ",", "<p>", "\""};
    String[] behind = {"\n", pick(2) == 0 ? "\n" : "", "</p>", "\", "};
    StringBuilder text = new StringBuilder();
    while (text.length() < 330) {
      boolean quoted = kind == 1 && pick(3) == 0;
      text.append(ahead[kind]).append(quoted ? "\"" : "").append(values[pick(values.length)]);
      text.append(quoted ? "\"" : "").append(behind[kind]);
    }
    return text.substring(0, Math.min(400, text.length()));
  }

  private void begin() {
    if (calm) {
      int kind = pick(4);
      int inner = pick(5) - 1;
      same("kind", () -> x.kind(kind, false), () -> m.kind(kind, false));
      same("inner", () -> x.kind(inner, true), () -> m.kind(inner, true));
      tape(longFile(kind));
      same("file()", x::file, m::file);
    }
  }

  private void step() {
    int p = number();
    int q = number();
    if (calm && pick(20) > 0) {
      change(7 + pick(12), p, q);
    } else {
      change(pick(24), p, q);
    }
    compare();
  }

  private void change(int which, int p, int q) {
    int kindBits = pick(3) == 0 ? -1 : pick(2) == 0 || m.s.inner < 0 ? m.s.kind : m.s.inner;
    switch (which) {
      case 0:
      case 1:
        tape(bits(0, pick(4) == 0 ? 400 : 60, kindBits));
        same("file()", x::file, m::file);
        break;
      case 2:
      case 3: {
        int kind = pick(12) == 0 ? pick(8) - 3 : pick(4);
        boolean inner = pick(2) == 0;
        int told = inner && pick(3) == 0 ? -1 : kind;
        same("kind(" + told + ", " + inner + ")", () -> x.kind(told, inner), () -> m.kind(told, inner));
        break;
      }
      case 4: {
        int what = pick(10) == 0 ? pick(5) - 1 : pick(2);
        int n = what == 0 ? pick(6) == 0 ? pick(5) - 1 : 0 : pick(4) == 0 ? pick(50) - 3 : 1;
        same("rule(" + what + ", " + n + ")", () -> x.rule(what, n), () -> m.rule(what, n));
        break;
      }
      case 5:
        tape(pick(5) == 0 ? bits(0, 12, 4) : new String[] {"a", "k", "key", "ab", "lo", "b"}[pick(6)]);
        same("lock()", x::lock, m::lock);
        break;
      case 6:
        if (pick(2) == 0) {
          same("unlock()", x::unlock, m::unlock);
        }
        break;
      case 7:
      case 8:
      case 9:
      case 10:
      case 11:
        tape(bits(0, pick(6) == 0 ? 64 : pick(2) == 0 ? 60 : 8, pick(4)));
        same("tell(" + p + ")", () -> x.tell(p), () -> m.tell(p));
        break;
      case 12:
        same("free(" + p + ")", () -> x.free(p), () -> m.free(p));
        break;
      case 13:
        same("spread(" + p + ")", () -> x.spread(p), () -> m.spread(p));
        break;
      case 14:
      case 15:
        same("swap(" + p + ", " + q + ")", () -> x.swap(p, q), () -> m.swap(p, q));
        break;
      case 16:
        if (pick(3) == 0) {
          same("wipe()", x::wipe, m::wipe);
        }
        break;
      case 17:
        same("undo()", x::undo, m::undo);
        break;
      case 18:
        tape(bits(0, pick(6) == 0 ? 64 : 12, pick(4)));
        same("would(" + p + ")", () -> x.would(p), () -> m.would(p));
        break;
      case 19:
        tape(pick(4) == 0 ? bits(0, 10, 4) : new String[] {"a", "word", "zz", "ab", "x", "hi", "text", "tex"}[pick(8)]);
        same("found()", x::found, m::found);
        break;
      case 20:
        tape(actText());
        same("acts()", x::acts, m::acts);
        break;
      case 21:
        if (pick(2) == 0) {
          same("image()", () -> {
            x.image();
            return 0;
          }, () -> {
            m.image();
            return 0;
          });
        } else {
          same("back()", () -> x.back() ? 1 : 0, () -> m.back() ? 1 : 0);
        }
        break;
      case 22:
        tape(actText());
        same("acts()", x::acts, m::acts);
        break;
      default:
        looks(p, q);
        break;
    }
  }

  private void looks(int p, int i) {
    for (int what = -1; what <= 10; what++) {
      int w = what;
      same("piece(" + p + ", " + w + ")", () -> x.piece(p, w), () -> m.piece(p, w));
      same("key(" + p + ", " + w + ")", () -> x.key(p, w), () -> m.key(p, w));
    }
    same("octet", () -> x.octet(p, i, false), () -> m.octet(p, i, false));
    same("octet now", () -> x.octet(p, i, true), () -> m.octet(p, i, true));
    same("origin", () -> x.origin(p, i), () -> m.origin(p, i));
    same("like", () -> x.like(p, i), () -> m.like(p, i));
    same("kept", () -> x.kept(p) ? 1 : 0, () -> m.kept(p) ? 1 : 0);
    same("holder", () -> x.holder(i), () -> m.holder(i));
    same("end", () -> x.end(-1 - pick(3)) ? 1 : 0, () -> 0);
  }

  private void compare() {
    for (int what = -1; what <= 15; what++) {
      int w = what;
      same("count(" + w + ")", () -> x.count(w), () -> m.count(w));
    }
    same("why()", x::why, () -> m.why);
    same("fault()", x::fault, () -> m.fault);
    same("twice()", () -> x.twice() ? 1 : 0, () -> m.twice() ? 1 : 0);
    String built = PlainModel.built(m.s, null);
    for (int i = -1; i <= built.length(); i++) {
      check("at built " + i, x.at(i, true), PlainModel.byteOf(built, i));
    }
    int many = m.pieces().size();
    for (int p = 0; p < many; p++) {
      PlainModel.Found f = m.pieces().get(p);
      String now = m.now(p);
      for (int i = -1; i <= f.text.length(); i++) {
        check("octet " + p + " " + i, x.octet(p, i, false), PlainModel.byteOf(f.text, i));
        check("origin " + p + " " + i, x.origin(p, i), i >= 0 && i < f.text.length() ? f.origins.get(i) : -1);
      }
      for (int i = -1; i <= now.length(); i++) {
        check("octet now " + p + " " + i, x.octet(p, i, true), PlainModel.byteOf(now, i));
      }
    }
    for (int k = -1; k <= 12; k++) {
      for (int i = -1; i < 3; i++) {
        check("memory", x.memory(k, false, i), m.memory(k, false, i));
        check("memory", x.memory(k, true, i), m.memory(k, true, i));
      }
    }
    if (many > 0) {
      int p = pick(many);
      looks(p, pick(8) - 1);
    }
  }

  private void check(String call, int got, int due) {
    if (got != due) {
      story.append("  ").append(call).append(" -> ").append(got).append(", due is ").append(due).append('\n');
      wrong = true;
    }
  }
}
