import java.util.ArrayDeque;
import java.util.ArrayList;
import java.util.Deque;
import java.util.HashSet;
import java.util.List;
import java.util.NoSuchElementException;

/**
 * The document told once more, with the whole Java library and no care for room or speed: what PieceFiles answers is
 * held against it. Texts are Strings of signs 0 to 255.
 */
final class PlainModel {
  static final class Found {
    int begin;
    int end;
    String text = "";
    List<Integer> origins = new ArrayList<>();
    List<Integer> ends = new ArrayList<>();
    boolean quoted;
    boolean innerQuoted;
    boolean atBegin;
    int keyBegin;
    String key = "";
  }

  static final class State {
    String file = "";
    int kind = 0;
    int inner = -1;
    boolean letters;
    int least = 1;
    List<String> locks = new ArrayList<>();
    String[] told = new String[40];
    List<String[]> memory = new ArrayList<>();

    State copy() {
      State s = new State();
      s.file = file;
      s.kind = kind;
      s.inner = inner;
      s.letters = letters;
      s.least = least;
      s.locks = new ArrayList<>(locks);
      s.told = told.clone();
      s.memory = new ArrayList<>(memory);
      return s;
    }
  }

  static final class Refused extends Exception {
    final int number;

    Refused(int number) {
      this.number = number;
    }
  }

  static final class Wrong extends Exception {
    final int place;

    Wrong(int place) {
      this.place = place;
    }
  }

  String tape = "";
  State s = new State();
  State image;
  Deque<State> past = new ArrayDeque<>();
  int why = 0;
  int fault = -1;

  // ---- cutting

  static List<Found> cutBy(int kind, String row) {
    switch (kind) {
      case 0:
        return cutLines(row);
      case 1:
        return cutTable(row);
      case 2:
        return cutMarkup(row);
      default:
        return cutQuotes(row);
    }
  }

  static void one(Found f, char meaning, int begin, int end) {
    f.text += meaning;
    f.origins.add(begin);
    f.ends.add(end);
  }

  static void backEscapes(Found f, String row, String signs, String meanings) {
    int i = f.begin;
    while (i < f.end) {
      int which = row.charAt(i) == '\\' && i + 1 < f.end ? signs.indexOf(row.charAt(i + 1)) : -1;
      if (which >= 0) {
        one(f, meanings.charAt(which), i, i + 2);
        i += 2;
      } else {
        one(f, row.charAt(i), i, i + 1);
        i++;
      }
    }
  }

  static List<Found> cutLines(String row) {
    List<Found> all = new ArrayList<>();
    int start = 0;
    for (String line : row.split("\n", -1)) {
      int equal = line.indexOf('=');
      String bare = line.replaceAll("^ +", "");
      if (equal >= 0 && !bare.startsWith("#")) {
        Found f = new Found();
        String ahead = line.substring(0, equal);
        f.key = ahead.replaceAll("^ +", "").replaceAll(" +$", "");
        f.keyBegin = start + line.length() - bare.length();
        String value = line.substring(equal + 1).replaceAll("^ +", "");
        f.end = start + line.length();
        f.begin = f.end - value.length();
        backEscapes(f, row, "nt\\ ", "\n\t\\ ");
        if (!value.isEmpty()) {
          all.add(f);
        }
      }
      start += line.length() + 1;
    }
    return all;
  }

  static List<Found> cutTable(String row) {
    List<Found> all = new ArrayList<>();
    int i = 0;
    while (i <= row.length()) {
      Found f = new Found();
      if (i < row.length() && row.charAt(i) == '"') {
        f.quoted = true;
        i++;
        f.begin = i;
        while (i < row.length()) {
          if (row.startsWith("\"\"", i)) {
            one(f, '"', i, i + 2);
            i += 2;
          } else if (row.charAt(i) == '"') {
            break;
          } else {
            one(f, row.charAt(i), i, i + 1);
            i++;
          }
        }
        f.end = i;
        i++;
        while (i < row.length() && row.charAt(i) != ',' && row.charAt(i) != '\n') {
          i++;
        }
      } else {
        f.begin = i;
        while (i < row.length() && row.charAt(i) != ',' && row.charAt(i) != '\n') {
          one(f, row.charAt(i), i, i + 1);
          i++;
        }
        f.end = i;
      }
      i++;
      if (f.end > f.begin) {
        all.add(f);
      }
    }
    return all;
  }

  static List<Found> cutMarkup(String row) {
    List<Found> all = new ArrayList<>();
    boolean[] bones = new boolean[row.length() + 1];
    boolean tag = false;
    for (int i = 0; i < row.length(); i++) {
      tag |= row.charAt(i) == '<';
      bones[i] = tag;
      tag &= row.charAt(i) != '>';
    }
    bones[row.length()] = true;
    int start = 0;
    for (int i = 0; i <= row.length(); i++) {
      if (bones[i]) {
        int begin = start;
        int end = i;
        while (begin < end && " \n".indexOf(row.charAt(begin)) >= 0) {
          begin++;
        }
        while (begin < end && " \n".indexOf(row.charAt(end - 1)) >= 0) {
          end--;
        }
        if (begin < end) {
          Found f = new Found();
          f.begin = begin;
          f.end = end;
          markupEscapes(f, row.substring(0, end));
          all.add(f);
        }
        start = i + 1;
      }
    }
    return all;
  }

  static void markupEscapes(Found f, String row) {
    String[] names = {"&lt;", "&gt;", "&amp;"};
    int i = f.begin;
    while (i < f.end) {
      int width = 1;
      char meaning = row.charAt(i);
      for (int k = 0; k < 3; k++) {
        if (row.startsWith(names[k], i)) {
          width = names[k].length();
          meaning = "<>&".charAt(k);
        }
      }
      one(f, meaning, i, i + width);
      i += width;
    }
  }

  static List<Found> cutQuotes(String row) {
    List<Found> all = new ArrayList<>();
    int open = row.indexOf('"');
    while (open >= 0) {
      int i = open + 1;
      while (i < row.length() && row.charAt(i) != '"') {
        i += row.charAt(i) == '\\' ? 2 : 1;
      }
      Found f = new Found();
      f.begin = open + 1;
      f.end = Math.min(i, row.length());
      backEscapes(f, row, "nt\\\"", "\n\t\\\"");
      String behind = i < row.length() ? row.substring(i + 1).replaceAll("^[ \n]+", "") : "";
      if (f.begin < f.end && !behind.startsWith(":")) {
        all.add(f);
      }
      open = i + 1 <= row.length() ? row.indexOf('"', i + 1) : -1;
    }
    return all;
  }

  static List<Found> pieces(String row, State s) {
    List<Found> all = new ArrayList<>();
    for (Found outer : cutBy(s.kind, row)) {
      boolean locked = false;
      for (String lock : s.locks) {
        locked |= s.kind == 0 && outer.key.startsWith(lock);
      }
      if (locked) {
        continue;
      }
      outer.atBegin = true;
      if (s.inner < 0) {
        all.add(outer);
        continue;
      }
      for (Found inner : cutBy(s.inner, outer.text)) {
        Found f = new Found();
        f.begin = outer.origins.get(inner.begin);
        f.end = outer.ends.get(inner.end - 1);
        f.text = inner.text;
        for (int o : inner.origins) {
          f.origins.add(outer.origins.get(o));
        }
        f.quoted = outer.quoted;
        f.innerQuoted = inner.quoted;
        f.atBegin = f.begin == outer.begin;
        f.key = outer.key;
        f.keyBegin = outer.keyBegin;
        all.add(f);
      }
    }
    all.removeIf(f -> f.text.length() < s.least || s.letters && !f.text.matches("(?s).*[a-zA-Z].*"));
    return all.size() > 40 ? new ArrayList<>(all.subList(0, 40)) : all;
  }

  List<Found> pieces() {
    return pieces(s.file, s);
  }

  // ---- escaping and building

  static String escapeBy(int kind, String text, boolean quoted, boolean first) {
    switch (kind) {
      case 0:
        String line = text.replace("\\", "\\\\").replace("\n", "\\n").replace("\t", "\\t");
        return first && line.startsWith(" ") ? "\\" + line : line;
      case 1:
        boolean around = !quoted && breaks(text);
        return around ? "\"" + text.replace("\"", "\"\"") + "\"" : quoted ? text.replace("\"", "\"\"") : text;
      case 2:
        return text.replace("&", "&amp;").replace("<", "&lt;").replace(">", "&gt;");
      case 3:
        return text.replace("\\", "\\\\").replace("\n", "\\n").replace("\t", "\\t").replace("\"", "\\\"");
      default:
        return text;
    }
  }

  static boolean breaks(String text) {
    return text.contains(",") || text.contains("\"") || text.contains("\n");
  }

  /** null if it cannot be. */
  static String escaped(String told, Found f, State s) {
    String within = escapeBy(s.inner, told, f.innerQuoted, true);
    if (s.kind == 1 && !f.quoted && s.inner >= 0 && breaks(within)) {
      return null;
    }
    return escapeBy(s.kind, within, f.quoted, f.atBegin);
  }

  /** How many bytes the quote takes that was put around what is told; 0 without. */
  static int quoteWidth(String told, Found f, State s) {
    if (s.inner == 1 && !f.innerQuoted && breaks(told)) {
      return escapeBy(s.kind, "\"", true, false).length();
    }
    return s.kind == 1 && s.inner < 0 && !f.quoted && breaks(told) ? 1 : 0;
  }

  static String built(State s, int[] begins) {
    StringBuilder all = new StringBuilder();
    int place = 0;
    List<Found> pieces = pieces(s.file, s);
    for (int i = 0; i < pieces.size(); i++) {
      Found f = pieces.get(i);
      all.append(s.file, place, f.begin);
      if (begins != null) {
        begins[i] = all.length();
      }
      all.append(s.told[i] == null ? s.file.substring(f.begin, f.end) : escaped(s.told[i], f, s));
      place = f.end;
    }
    return all.append(s.file.substring(place)).toString();
  }

  String now(int p) {
    return s.told[p] != null ? s.told[p] : pieces().get(p).text;
  }

  // ---- acts

  int remembered() {
    return past.size();
  }

  interface Act {
    void run() throws Refused;
  }

  void byCall(Act act) {
    State before = s.copy();
    try {
      act.run();
    } catch (Refused e) {
      s = before;
      why = e.number;
      throw new IllegalStateException();
    }
    why = 0;
    past.addLast(before);
    if (past.size() > 8) {
      past.removeFirst();
    }
  }

  void recut() {
    s.told = new String[40];
  }

  void need(boolean right, int number) throws Refused {
    if (!right) {
      throw new Refused(number);
    }
  }

  boolean has(int p) {
    return p >= 0 && p < pieces().size();
  }

  void tellAct(int p, String told) throws Refused {
    need(has(p), 1);
    Found f = pieces().get(p);
    need(escaped(told, f, s) != null, 2);
    s.told[p] = told;
    need(built(s, null).length() <= 600, 3);
    if (f.text.length() <= 60) {
      s.memory.add(0, new String[] {f.text, told});
      if (s.memory.size() > 12) {
        s.memory.remove(12);
      }
    }
  }

  void freeAct(int p) throws Refused {
    need(has(p), 1);
    need(s.told[p] != null, 4);
    s.told[p] = null;
    need(built(s, null).length() <= 600, 3);
  }

  void spreadAct(int p) throws Refused {
    need(has(p), 1);
    String told = s.told[p];
    need(told != null, 4);
    for (int i : likes(p)) {
      need(escaped(told, pieces().get(i), s) != null, 2);
      s.told[i] = told;
    }
    need(built(s, null).length() <= 600, 3);
  }

  void swapAct(int p, int q) throws Refused {
    need(has(p) && has(q), 1);
    need(p != q, 5);
    String a = now(p);
    String b = now(q);
    need(a.length() <= 60 && b.length() <= 60, 8);
    need(escaped(b, pieces().get(p), s) != null && escaped(a, pieces().get(q), s) != null, 2);
    s.told[p] = b;
    s.told[q] = a;
    need(built(s, null).length() <= 600, 3);
  }

  void wipeAct() throws Refused {
    need(told() > 0, 4);
    recut();
  }

  void lockAct(String word) throws Refused {
    need(s.locks.size() < 4, 6);
    need(!s.locks.contains(word), 7);
    s.locks.add(word);
    recut();
  }

  int told() {
    int many = 0;
    for (String one : s.told) {
      many += one != null ? 1 : 0;
    }
    return many;
  }

  List<Integer> likes(int p) {
    List<Integer> all = new ArrayList<>();
    List<Found> pieces = pieces();
    for (int i = 0; i < pieces.size(); i++) {
      if (pieces.get(i).text.equals(pieces.get(p).text)) {
        all.add(i);
      }
    }
    return all;
  }

  // ---- texts of acts

  private String text;
  private int at;

  void blanks() {
    while (at < text.length() && text.charAt(at) == ' ') {
      at++;
    }
  }

  String readWord() {
    int begin = at;
    while (at < text.length() && text.charAt(at) >= 'a' && text.charAt(at) <= 'z') {
      at++;
    }
    return text.substring(begin, at);
  }

  int readNumber(int least, int most) throws Wrong {
    blanks();
    int begin = at;
    while (at < text.length() && text.charAt(at) >= '0' && text.charAt(at) <= '9') {
      at++;
    }
    String digits = text.substring(begin, at);
    if (digits.isEmpty() || digits.length() > 2) {
      throw new Wrong(begin);
    }
    int n = Integer.parseInt(digits);
    if (n < least || n > most) {
      throw new Wrong(begin);
    }
    return n;
  }

  void readAndDo() throws Wrong, Refused {
    int begin = at;
    String word = readWord();
    switch (word) {
      case "kind":
        s.kind = readNumber(0, 3);
        recut();
        break;
      case "inner":
        s.inner = readNumber(0, 3);
        recut();
        break;
      case "plain":
        s.inner = -1;
        recut();
        break;
      case "letters":
        s.letters = true;
        recut();
        break;
      case "any":
        s.letters = false;
        recut();
        break;
      case "least":
        s.least = readNumber(1, 40);
        recut();
        break;
      case "lock":
        blanks();
        int wordBegin = at;
        String lock = readWord();
        if (lock.isEmpty() || lock.length() > 8) {
          throw new Wrong(wordBegin);
        }
        lockAct(lock);
        break;
      case "unlock":
        s.locks.clear();
        recut();
        break;
      case "free":
        freeAct(readNumber(0, 39));
        break;
      case "spread":
        spreadAct(readNumber(0, 39));
        break;
      case "swap":
        int p = readNumber(0, 39);
        swapAct(p, readNumber(0, 39));
        break;
      case "wipe":
        wipeAct();
        break;
      default:
        throw new Wrong(begin);
    }
  }

  // ---- the face

  boolean feed(int[] numbers) {
    if (tape.length() + 20 > 400) {
      return false;
    }
    StringBuilder more = new StringBuilder(tape);
    for (int n : numbers) {
      more.append((char) (n >>> 24)).append((char) (n >> 16 & 255)).append((char) (n >> 8 & 255)).append((char) (n & 255));
    }
    tape = more.toString();
    return true;
  }

  String take() {
    String all = tape;
    tape = "";
    return all;
  }

  int acts() {
    text = take();
    at = 0;
    State before = s.copy();
    int done = 0;
    int begin = 0;
    try {
      blanks();
      boolean more = at < text.length();
      while (more) {
        begin = at;
        if (done == 14) {
          throw new Wrong(at);
        }
        readAndDo();
        done++;
        blanks();
        more = at < text.length();
        if (more && text.charAt(at) != ';') {
          throw new Wrong(at);
        }
        at++;
        blanks();
      }
    } catch (Wrong e) {
      s = before;
      fault = e.place;
      throw new IllegalArgumentException();
    } catch (Refused e) {
      s = before;
      fault = begin;
      why = e.number;
      throw new IllegalArgumentException();
    }
    fault = -1;
    past.clear();
    if (done > 0) {
      why = 0;
    }
    return done;
  }

  int file() {
    s.file = take();
    recut();
    past.clear();
    return pieces().size();
  }

  int kind(int kind, boolean inner) {
    if (kind > 3 || kind < -1 || kind == -1 && !inner) {
      throw new IllegalArgumentException();
    }
    byCall(() -> {
      if (inner) {
        s.inner = kind;
      } else {
        s.kind = kind;
      }
      recut();
    });
    return pieces().size();
  }

  int rule(int what, int n) {
    if (what < 0 || what > 1) {
      throw new NoSuchElementException();
    }
    if (what == 0 && n != 0 && n != 1 || what == 1 && (n < 1 || n > 40)) {
      throw new IllegalArgumentException();
    }
    byCall(() -> {
      s.letters = what == 0 ? n == 1 : s.letters;
      s.least = what == 1 ? n : s.least;
      recut();
    });
    return pieces().size();
  }

  String takeWord() {
    String word = take();
    if (!word.matches("[a-z]{1,8}")) {
      throw new IllegalArgumentException();
    }
    return word;
  }

  int lock() {
    String word = takeWord();
    byCall(() -> lockAct(word));
    return pieces().size();
  }

  int unlock() {
    byCall(() -> {
      s.locks.clear();
      recut();
    });
    return pieces().size();
  }

  int tell(int p) {
    String told = take();
    if (told.length() > 60) {
      throw new IllegalArgumentException();
    }
    byCall(() -> tellAct(p, told));
    return built(s, null).length();
  }

  int free(int p) {
    byCall(() -> freeAct(p));
    return built(s, null).length();
  }

  int spread(int p) {
    byCall(() -> spreadAct(p));
    return likes(p).size() - 1;
  }

  int swap(int p, int q) {
    byCall(() -> swapAct(p, q));
    return built(s, null).length();
  }

  int wipe() {
    int many = told();
    byCall(this::wipeAct);
    return many;
  }

  int undo() {
    if (past.isEmpty()) {
      throw new IllegalStateException();
    }
    s = past.removeLast();
    return past.size();
  }

  Found pieceOrThrow(int p) {
    if (!has(p)) {
      throw new IndexOutOfBoundsException();
    }
    return pieces().get(p);
  }

  static List<String> words(String text) {
    List<String> all = new ArrayList<>();
    for (String one : text.split("[^a-zA-Z]+")) {
      if (!one.isEmpty()) {
        all.add(one);
      }
    }
    return all;
  }

  int piece(int p, int what) {
    Found f = pieceOrThrow(p);
    int[] begins = new int[40];
    built(s, begins);
    switch (what) {
      case 0:
        return f.begin;
      case 1:
        return f.end;
      case 2:
        return f.text.length();
      case 3:
        return now(p).length();
      case 4:
        return s.told[p] != null ? 1 : 0;
      case 5:
        return likes(p).size();
      case 6:
        return words(now(p)).size();
      case 7:
        for (int i = 0; i < s.memory.size(); i++) {
          if (s.memory.get(i)[0].equals(f.text)) {
            return i;
          }
        }
        return -1;
      case 8:
        return s.told[p] != null ? escaped(s.told[p], f, s).length() : f.end - f.begin;
      case 9:
        return begins[p];
      default:
        throw new NoSuchElementException();
    }
  }

  static int byteOf(String text, int i) {
    return i >= 0 && i < text.length() ? text.charAt(i) : -1;
  }

  int octet(int p, int i, boolean now) {
    return byteOf(now && has(p) ? now(p) : pieceOrThrow(p).text, i);
  }

  int origin(int p, int i) {
    Found f = pieceOrThrow(p);
    return i >= 0 && i < f.text.length() ? f.origins.get(i) : -1;
  }

  int key(int p, int what) {
    Found f = pieceOrThrow(p);
    if (what < 0 || what > 1) {
      throw new NoSuchElementException();
    }
    return s.kind != 0 ? -1 : what == 0 ? f.keyBegin : f.key.length();
  }

  int holder(int place) {
    List<Found> all = pieces();
    for (int i = 0; i < all.size(); i++) {
      if (place >= all.get(i).begin && place < all.get(i).end) {
        return i;
      }
    }
    return -1;
  }

  int at(int i, boolean built) {
    return byteOf(built ? built(s, null) : s.file, i);
  }

  int like(int p, int k) {
    pieceOrThrow(p);
    return k >= 0 && k < likes(p).size() ? likes(p).get(k) : -1;
  }

  int would(int p) {
    String told = take();
    Found f = pieceOrThrow(p);
    if (told.length() > 60) {
      throw new IllegalArgumentException();
    }
    String all = escaped(told, f, s);
    return all == null ? -1 : all.length();
  }

  long found() {
    String word = takeWord();
    long bits = 0;
    for (int i = 0; i < pieces().size(); i++) {
      bits |= now(i).toLowerCase(java.util.Locale.ROOT).contains(word) ? 1L << i : 0L;
    }
    return bits;
  }

  int memory(int k, boolean told, int i) {
    return k >= 0 && k < s.memory.size() ? byteOf(s.memory.get(k)[told ? 1 : 0], i) : -1;
  }

  boolean kept(int p) {
    Found f = pieceOrThrow(p);
    int[] begins = new int[40];
    String built = built(s, begins);
    int width = s.told[p] == null ? 0 : quoteWidth(s.told[p], f, s);
    for (Found g : pieces(built, s)) {
      if ((g.begin == begins[p] || g.begin == begins[p] + width) && g.text.equals(now(p))) {
        return true;
      }
    }
    return false;
  }

  boolean twice() {
    List<Found> again = pieces(built(s, null), s);
    if (again.size() != pieces().size()) {
      return false;
    }
    for (int i = 0; i < again.size(); i++) {
      if (!again.get(i).text.equals(now(i))) {
        return false;
      }
    }
    return true;
  }

  void image() {
    image = s.copy();
  }

  boolean back() {
    if (image == null) {
      return false;
    }
    s = image.copy();
    past.clear();
    return true;
  }

  int count(int what) {
    int sum = 0;
    switch (what) {
      case 0:
        return s.file.length();
      case 1:
        return s.kind;
      case 2:
        return s.inner;
      case 3:
        return pieces().size();
      case 4:
        return told();
      case 5:
        return built(s, null).length();
      case 6:
        boolean[] held = new boolean[s.file.length()];
        pieces().forEach(f -> java.util.Arrays.fill(held, f.begin, f.end, true));
        for (boolean one : held) {
          sum += one ? 0 : 1;
        }
        return sum;
      case 7:
        return s.letters ? 1 : 0;
      case 8:
        return s.least;
      case 9:
        return s.locks.size();
      case 10:
        HashSet<String> texts = new HashSet<>();
        pieces().forEach(f -> texts.add(f.text));
        return texts.size();
      case 11:
        for (int i = 0; i < pieces().size(); i++) {
          sum += words(now(i)).size();
        }
        return sum;
      case 12:
        return s.memory.size();
      case 13:
        for (Found f : pieces()) {
          sum = Math.max(sum, f.text.length());
        }
        return sum;
      case 14:
        return past.size();
      default:
        return -1;
    }
  }
}
