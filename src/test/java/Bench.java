import java.util.function.LongSupplier;

/** What the promise tests share: a new object a case, texts put on its tape, answers held against what is due. */
final class Bench {
  private static int wrong = 0;
  private static int checks = 0;

  final PieceFiles x = new PieceFiles();
  private final String title;

  Bench(String title) {
    this.title = title;
  }

  static int wrongOnes() {
    return wrong;
  }

  static int allChecks() {
    return checks;
  }

  /** The tape is told to hold just this text. */
  Bench tape(String text) {
    x.end(0);
    for (int i = 0; i < text.length(); i += 20) {
      int[] n = new int[5];
      for (int j = 0; j < 20; j++) {
        n[j / 4] = n[j / 4] << 8 | (i + j < text.length() ? text.charAt(i + j) & 255 : 0);
      }
      x.feed(n[0], n[1], n[2], n[3], n[4]);
    }
    x.end(text.length());
    return this;
  }

  Bench file(String text) {
    tape(text);
    x.file();
    return this;
  }

  Bench kinds(int kind, int inner) {
    x.kind(kind, false);
    x.kind(inner, true);
    return this;
  }

  int tell(int piece, String told) {
    return tape(told).x.tell(piece);
  }

  int acts(String text) {
    return tape(text).x.acts();
  }

  String built() {
    return read(i -> x.at(i, true));
  }

  String fileText() {
    return read(i -> x.at(i, false));
  }

  String text(int piece) {
    return read(i -> x.octet(piece, i, false));
  }

  String now(int piece) {
    return read(i -> x.octet(piece, i, true));
  }

  String pairText(int k) {
    return read(i -> x.memory(k, false, i));
  }

  String pairTold(int k) {
    return read(i -> x.memory(k, true, i));
  }

  interface Look {
    int get(int i);
  }

  private static String read(Look look) {
    StringBuilder all = new StringBuilder();
    for (int i = 0; look.get(i) != PieceFiles.NONE; i++) {
      all.append((char) look.get(i));
    }
    return all.toString();
  }

  /** All texts of pieces, each behind a bar. */
  String texts() {
    StringBuilder all = new StringBuilder();
    for (int i = 0; i < x.count(3); i++) {
      all.append('|').append(text(i));
    }
    return all.toString();
  }

  /** Where all pieces lie in the file. */
  String places() {
    StringBuilder all = new StringBuilder();
    for (int i = 0; i < x.count(3); i++) {
      all.append(' ').append(x.piece(i, 0)).append('-').append(x.piece(i, 1));
    }
    return all.toString().trim();
  }

  Bench is(String what, Object got, Object due) {
    checks++;
    if (!String.valueOf(got).equals(String.valueOf(due))) {
      wrong++;
      System.out.println(title + ": " + what + " is <" + got + ">, due is <" + due + ">");
    }
    return this;
  }

  /** The call throws just this class. */
  Bench throwing(String what, Class<?> due, LongSupplier call) {
    Object got = "nothing";
    try {
      call.getAsLong();
    } catch (RuntimeException e) {
      got = e.getClass().getName();
    }
    return is(what + " throws", got, due.getName());
  }
}
