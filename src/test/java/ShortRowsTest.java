import java.util.ArrayList;
import java.util.List;
import java.util.regex.Matcher;
import java.util.regex.Pattern;

/**
 * Every short row of the signs that matter to a kind and an inner kind, cut, told and built: held against the
 * document's kinds told by patterns, which share no code with PieceFiles nor with PlainModel.
 */
public final class ShortRowsTest {
  private static final Pattern[] CUTS = {
    Pattern.compile("\\G *(?:#[^\n]*|([^=\n]*?) *= *([^\n]*)|[^=\n]*)(?:\n|\\z)"),
    Pattern.compile("\\G(?:\"((?:\"\"|[^\"])*+)(?:\"[^,\n]*)?|([^,\n]*))(?:[,\n]|\\z)"),
    Pattern.compile("<[^>]*>?|[ \n]*([^<]*[^< \n])?[ \n]*"),
    Pattern.compile("\"((?s:\\\\.|[^\"\\\\])*+\\\\?)(?:\"([ \n]*:)?|\\z)")};
  private static final Pattern[] SIGNS = {
    Pattern.compile("(?s)\\\\[nt\\\\ ]|."),
    Pattern.compile("(?s)\"\"|."),
    Pattern.compile("(?s)&lt;|&gt;|&amp;|."),
    Pattern.compile("(?s)\\\\[nt\\\\\"]|.")};
  private static final String[][] TOKENS = {
    {"=", "#", "\\", "n", " ", "\n", "a"},
    {"\"", ",", "\n", "a"},
    {"<", ">", "&lt;", "&amp;", "&", " ", "\n", "a"},
    {"\"", "\\", "n", ":", " ", "\n", "a"}};
  private static final String[] OPEN = {"k=", "\"", ">", "\""};
  private static final String[] TOLD = {"", " a", "a,b", "\"", "\\", "\n", "a\tb", "<&>", "a b ", " \"y\",", "\\n", "=", ":"};

  private static int rows;
  private static int wrong;

  /** A byte of a text: what it means, and from where to where its row means it. */
  private record Sign(char meaning, int begin, int end) {}

  private record Part(List<Sign> signs, boolean quoted, boolean quotedWithin, boolean first) {
    String text() {
      StringBuilder all = new StringBuilder();
      for (Sign one : signs) {
        all.append(one.meaning);
      }
      return all.toString();
    }

    int begin() {
      return signs.get(0).begin;
    }

    int end() {
      return signs.get(signs.size() - 1).end;
    }
  }

  public static void main(String[] args) {
    int most = args.length > 0 ? Integer.parseInt(args[0]) : 4;
    for (int kind = 0; kind < 4; kind++) {
      for (int inner = -1; inner < 4; inner++) {
        List<String> tokens = new ArrayList<>(List.of(TOKENS[kind]));
        for (String one : inner < 0 ? new String[0] : TOKENS[inner]) {
          if (!tokens.contains(one)) {
            tokens.add(one);
          }
        }
        // Behind what opens a piece of the kind, and of the inner one, the inner one has more to cut.
        all(kind, inner, tokens, "", inner < 0 ? most + 1 : most);
        all(kind, inner, tokens, OPEN[kind], most);
        if (inner >= 0) {
          String opened = kind == 3 && OPEN[inner].equals("\"") ? "\\\"" : kind == 1 && OPEN[inner].equals("\"") ? "\"\"" : OPEN[inner];
          all(kind, inner, tokens, OPEN[kind] + opened, most);
        }
      }
    }
    System.out.println(rows + " rows, " + wrong + " wrong");
    System.exit(wrong == 0 ? 0 : 1);
  }

  private static void all(int kind, int inner, List<String> tokens, String row, int more) {
    if (wrong > 20) {
      return;
    }
    one(kind, inner, row);
    for (int i = 0; i < tokens.size() && more > 0; i++) {
      all(kind, inner, tokens, row + tokens.get(i), more - 1);
    }
  }

  private static List<Part> cutBy(int kind, String row) {
    List<Part> parts = new ArrayList<>();
    Matcher m = CUTS[kind].matcher(row);
    while (m.find()) {
      boolean quoted = kind == 1 && m.group(1) != null;
      boolean aside = kind == 3 && m.group(2) != null;
      int group = kind == 0 || kind == 1 && !quoted ? 2 : 1;
      if (!aside && m.group(group) != null && !m.group(group).isEmpty()) {
        boolean plain = kind == 1 && !quoted;
        parts.add(new Part(signs(plain ? -1 : kind, m.group(group), m.start(group)), quoted, false, true));
      }
    }
    return parts;
  }

  private static List<Sign> signs(int kind, String piece, int from) {
    List<Sign> signs = new ArrayList<>();
    Matcher m = kind < 0 ? Pattern.compile("(?s).").matcher(piece) : SIGNS[kind].matcher(piece);
    while (m.find()) {
      signs.add(new Sign(meaning(m.group()), from + m.start(), from + m.end()));
    }
    return signs;
  }

  private static char meaning(String sign) {
    switch (sign) {
      case "\\n":
        return '\n';
      case "\\t":
        return '\t';
      case "&lt;":
        return '<';
      case "&gt;":
        return '>';
      case "&amp;":
        return '&';
      default:
        return sign.charAt(sign.length() - 1);
    }
  }

  private static List<Part> cut(int kind, int inner, String row) {
    List<Part> parts = cutBy(kind, row);
    if (inner < 0) {
      return parts;
    }
    List<Part> within = new ArrayList<>();
    for (Part outer : parts) {
      for (Part one : cutBy(inner, outer.text())) {
        List<Sign> signs = new ArrayList<>();
        for (Sign sign : one.signs) {
          signs.add(new Sign(sign.meaning, outer.signs.get(sign.begin).begin, outer.signs.get(sign.end - 1).end));
        }
        within.add(new Part(signs, outer.quoted, one.quoted, signs.get(0).begin == outer.begin()));
      }
    }
    return within;
  }

  private static String escaped(int kind, String text, boolean quoted, boolean first) {
    boolean around = kind == 1 && !quoted && text.matches("(?s).*[,\"\n].*");
    StringBuilder all = new StringBuilder(around ? "\"" : "");
    for (int i = 0; i < text.length(); i++) {
      char sign = text.charAt(i);
      boolean back = kind == 0 && (sign == ' ' && first && i == 0) || (kind == 0 || kind == 3) && "\n\t\\".indexOf(sign) >= 0
          || kind == 3 && sign == '"';
      boolean twice = kind == 1 && sign == '"';
      String name = kind != 2 ? null : sign == '<' ? "&lt;" : sign == '>' ? "&gt;" : sign == '&' ? "&amp;" : null;
      String shown = !back ? String.valueOf(sign) : sign == '\n' ? "\\n" : sign == '\t' ? "\\t" : "\\" + sign;
      all.append(twice ? "\"\"" : name != null ? name : shown);
    }
    return all.append(around ? "\"" : "").toString();
  }

  private static void one(int kind, int inner, String row) {
    rows++;
    String title = "kind " + kind + ", inner " + inner + ", row <" + row + ">";
    Bench bench = new Bench(title).kinds(kind, inner).file(row);
    List<Part> parts = cut(kind, inner, row);
    StringBuilder due = new StringBuilder();
    StringBuilder got = new StringBuilder();
    int told = -1;
    for (int p = 0; p < parts.size(); p++) {
      Part part = parts.get(p);
      due.append(part.begin()).append('-').append(part.end()).append(part.text());
      for (Sign sign : part.signs) {
        due.append(' ').append(sign.begin);
      }
      told = rows % parts.size();
    }
    for (int p = 0; p < bench.x.count(3); p++) {
      got.append(bench.x.piece(p, 0)).append('-').append(bench.x.piece(p, 1)).append(bench.text(p));
      for (int i = 0; bench.x.origin(p, i) != PieceFiles.NONE; i++) {
        got.append(' ').append(bench.x.origin(p, i));
      }
    }
    same(title + ", pieces", got.toString(), due.toString());
    same(title + ", built", bench.built(), row);
    if (told >= 0 && wrong == 0) {
      tell(title, bench, kind, inner, row, parts, told);
    }
  }

  private static void tell(String title, Bench bench, int kind, int inner, String row, List<Part> parts, int p) {
    String told = TOLD[rows % TOLD.length];
    Part part = parts.get(p);
    String within = inner < 0 ? told : escaped(inner, told, part.quotedWithin, true);
    String shown = escaped(kind, within, part.quoted, part.first);
    boolean cannot = kind == 1 && inner >= 0 && !part.quoted && !shown.equals(within);
    String built = cannot ? row : row.substring(0, part.begin()) + shown + row.substring(part.end());
    String call = title + ", piece " + p + " told <" + told + ">";
    same(call + ", would", String.valueOf(bench.tape(told).x.would(p)), String.valueOf(cannot ? -1 : shown.length()));
    boolean refused = false;
    try {
      bench.tell(p, told);
    } catch (IllegalStateException e) {
      refused = bench.x.why() == 2;
    }
    same(call + ", refused", String.valueOf(refused), String.valueOf(cannot));
    same(call + ", built", bench.built(), built);
    List<Part> again = cut(kind, inner, built);
    boolean twice = again.size() == parts.size();
    boolean kept = false;
    String now = cannot ? part.text() : told;
    // A quote that was put around is as long as the kind makes it.
    int behind = cannot ? 0 : inner < 0 ? kind == 1 && !part.quoted && !shown.equals(told) ? 1 : 0
        : inner == 1 && !part.quotedWithin && !within.equals(told) ? escaped(kind, "\"", true, false).length() : 0;
    for (int i = 0; i < again.size(); i++) {
      String text = again.get(i).text();
      twice = twice && text.equals(i == p ? now : parts.get(i).text());
      int begin = again.get(i).begin();
      kept = kept || (begin == part.begin() || begin == part.begin() + behind) && text.equals(now);
    }
    same(call + ", twice", String.valueOf(bench.x.twice()), String.valueOf(twice));
    same(call + ", kept", String.valueOf(bench.x.kept(p)), String.valueOf(kept));
  }

  private static void same(String what, String got, String due) {
    if (!got.equals(due)) {
      wrong++;
      System.out.println(what + " is <" + got + ">, due is <" + due + ">");
    }
  }
}
