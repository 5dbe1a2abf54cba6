import java.util.function.LongSupplier;

/** What the promise tests share: a new object a case, texts put on its tape, answers held against what is due. */
final class Bench {
  private static int wrong = 0;
  private static int checks = 0;

  final PieceFiles x = new PieceFiles();
  private final String title;

  Bench(String title) {
    this.title = title;
  }

  static int wrongOnes() {
    return wrong;
  }

  static int allChecks() {
    return checks;
  }

  /** The tape is told to hold just this text. */
  Bench tape(String text) {
    x.end(0);
    for (int i = 0; i < text.length(); i += 20) {
      int[] n = new int[5];
      for (int j = 0; j < 20; j++) {
        n[j / 4] = n[j / 4] << 8 | (i + j < text.length() ? text.charAt(i + j) & 255 : 0);
      }
      x.feed(n[0], n[1], n[2], n[3], n[4]);
    }
    x.end(text.length());
    return this;
  }

  Bench file(String text) {
    tape(text);
    x.file();
    return this;
  }

  Bench kinds(int kind, int inner) {
    x.kind(kind, false);
    x.kind(inner, true);
    return this;
  }

  int tell(int piece, String told) {
    return tape(told).x.tell(piece);
  }

  int acts(String text) {
    return tape(text).x.acts();
  }

  String built() {
    return read(i -> x.at(i, true));
  }

  String fileText() {
    return read(i -> x.at(i, false));
  }

  String text(int piece) {
    return read(i -> x.octet(piece, i, false));
  }

  String now(int piece) {
    return read(i -> x.octet(piece, i, true));
  }

  String pairText(int k) {
    return read(i -> x.memory(k, false, i));
  }

  String pairTold(int k) {
    return read(i -> x.memory(k, true, i));
  }

  interface Look {
    int get(int i);
  }

  private static String read(Look look) {
    StringBuilder all = new StringBuilder();
    for (int i = 0; look.get(i) != PieceFiles.NONE; i++) {
      all.append((char) look.get(i));
    }
    return all.toString();
  }

  /** All texts of pieces, each behind a bar. */
  String texts() {
    StringBuilder all = new StringBuilder();
    for (int i = 0; i < x.count(3); i++) {
      all.append('|').append(text(i));
    }
    return all.toString();
  }

  /** Where all pieces lie in the file. */
  String places() {
    StringBuilder all = new StringBuilder();
    for (int i = 0; i < x.count(3); i++) {
      all.append(' ').append(x.piece(i, 0)).append('-').append(x.piece(i, 1));
    }
    return all.toString().trim();
  }

  /** All that can be asked, but for what is remembered, the tape, fault() and why(). */
  String all() {
    StringBuilder all = new StringBuilder(fileText()).append(texts()).append('>').append(built());
    for (int i = 0; i < 14; i++) {
      all.append(' ').append(x.count(i));
    }
    for (int i = 0; i < x.count(3); i++) {
      all.append('|').append(now(i));
      for (int what = 0; what < 10; what++) {
        all.append(' ').append(x.piece(i, what));
      }
    }
    for (int k = 0; k < x.count(12); k++) {
      all.append('|').append(pairText(k)).append('=').append(pairTold(k));
    }
    return all.append(' ').append(x.twice()).toString();
  }

  /** The tape has just so many bytes; looking leaves it as it is. */
  Bench tapeHas(String what, int n) {
    return is("the tape behind " + what, x.end(n + 1) + " " + x.end(n), "false true");
  }

  Bench is(String what, Object got, Object due) {
    checks++;
    if (!String.valueOf(got).equals(String.valueOf(due))) {
      wrong++;
      System.out.println(title + ": " + what + " is <" + got + ">, due is <" + due + ">");
    }
    return this;
  }

  /** The call throws just this class. */
  Bench throwing(String what, Class<?> due, LongSupplier call) {
    Object got = "nothing";
    try {
      call.getAsLong();
    } catch (RuntimeException e) {
      got = e.getClass().getName();
    }
    return is(what + " throws", got, due.getName());
  }
}
