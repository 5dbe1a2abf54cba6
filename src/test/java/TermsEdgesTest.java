import java.util.NoSuchElementException;

/** The edges that "Terms" and promises 1 to 3 and 7 to 11 name: a case for each sentence, at the edge and beside it. */
public final class TermsEdgesTest {
  private static final Class<?> ARGUMENT = IllegalArgumentException.class;
  private static final Class<?> STATE = IllegalStateException.class;
  private static final Class<?> ELEMENT = NoSuchElementException.class;
  private static final int[] FAR = {Integer.MIN_VALUE, Integer.MIN_VALUE + 1, Integer.MAX_VALUE - 1, Integer.MAX_VALUE};

  public static void main(String[] args) {
    fileOfNone();
    fileOfMost();
    fileOfAllBytes();
    feedOfMost();
    feedOfHighBits();
    endOfTape();
    kindsOfMost();
    lineEnds();
    lineSkeleton();
    lineKeys();
    lineValues();
    lineEscapes();
    tableCells();
    tableQuoted();
    tableUnclosed();
    tableBehindQuotes();
    tableBare();
    markupTags();
    markupEnds();
    markupEscapes();
    quotesEnds();
    quotesUnclosed();
    quotesKeys();
    quotesEscapes();
    withinOthers();
    withinEnds();
    withinPlaces();
    lettersRule();
    leastRule();
    leastOfMost();
    locksOfMost();
    lockWords();
    lockKeys();
    lockKinds();
    firstForty();
    fortyBehindRules();
    cutWhenTold();
    System.out.println(Bench.allChecks() + " checks, " + Bench.wrongOnes() + " wrong");
    System.exit(Bench.wrongOnes() == 0 ? 0 : 1);
  }

  private static String many(String text, int times) {
    return text.repeat(times);
  }

  /** A new object, its file and kinds told. */
  private static Bench cutBy(int kind, int inner, String file) {
    return new Bench("<" + file + "> by " + kind + ", " + inner).kinds(kind, inner).file(file);
  }

  private static void due(int kind, int inner, String file, String texts, String places) {
    Bench b = cutBy(kind, inner, file);
    b.is("texts", b.texts(), texts).is("places", b.places(), places).is("BUILT", b.built(), file).is("twice", b.x.twice(), true);
    for (int i = 0; i < b.x.count(3); i++) {
      b.is("bytes of the TEXT", b.x.piece(i, 2), b.text(i).length());
    }
  }

  // "THE FILE: at most 400 bytes 0 to 255 (none at first)"; promises 1 and 7
  private static void fileOfNone() {
    Bench b = new Bench("a FILE of no bytes");
    b.is("new", b.x.count(0) + " " + b.x.at(0, false) + " " + b.x.count(3) + " " + b.x.count(5), "0 -1 0 0");
    b.is("told", b.x.file() + " " + b.x.count(0), "0 0");
    b.file("a").is("of one", b.x.count(0) + " " + b.x.at(0, false) + " " + b.x.at(1, false), "1 97 -1");
    b.is("none again", b.x.file() + " " + b.x.count(0) + " " + b.x.at(0, false) + " " + b.x.at(0, true), "0 0 -1 -1");
    for (int kind = 0; kind <= 3; kind++) {
      for (int inner = -1; inner <= 3; inner++) {
        due(kind, inner, "", "", "");
      }
    }
  }

  private static void fileOfMost() {
    for (int bytes = 399; bytes <= 400; bytes++) {
      Bench b = new Bench("a FILE of " + bytes).file(many("x", bytes - 2) + "=y");
      b.is("bytes", b.x.count(0), bytes).is("last", b.x.at(bytes - 1, false), 121).is("behind", b.x.at(bytes, false), -1);
      b.is("PIECES", b.places(), bytes - 1 + "-" + bytes).is("key", b.x.key(0, 1), bytes - 2).is("BUILT", b.x.count(5), bytes);
      b.is("holder", b.x.holder(bytes - 1) + " " + b.x.holder(bytes), "0 -1");
    }
    for (int kind = 0; kind <= 3; kind++) {
      String row = kind == 0 ? "=" + many("x", 399) : kind == 3 ? "\"" + many("x", 399) : many("x", 400);
      Bench b = cutBy(kind, -1, row);
      b.is("to the end", b.x.piece(0, 1), 400).is("TEXT", b.x.piece(0, 2), b.x.count(13)).is("twice", b.x.twice(), true);
    }
  }

  private static void fileOfAllBytes() {
    StringBuilder signs = new StringBuilder("k=");
    for (int i = 0; i < 256; i++) {
      signs.append(i == 10 || i == 92 ? 'x' : (char) i);
    }
    Bench b = new Bench("bytes 0 to 255").file(signs.toString());
    b.is("FILE", b.fileText(), signs.toString()).is("BUILT", b.built(), signs.toString());
    b.is("TEXT", b.text(0), signs.substring(2)).is("0", b.x.octet(0, 0, false), 0).is("255", b.x.octet(0, 255, true), 255);
  }

  // Promise 2: "NONE, and none come, if it would have more than 400"
  private static void feedOfMost() {
    Bench b = new Bench("a TAPE of 400");
    for (int n = 20; n <= 400; n += 20) {
      b.is("feed", b.x.feed(1, 2, 3, 4, 5), n);
    }
    b.is("to 420", b.x.feed(6, 6, 6, 6, 6), -1).tapeHas("420", 400);
    b.is("cut to 399", b.x.end(399), true).is("to 419", b.x.feed(6, 6, 6, 6, 6), -1).tapeHas("419", 399);
    b.is("cut to 381", b.x.end(381), true).is("to 401", b.x.feed(6, 6, 6, 6, 6), -1).tapeHas("401", 381);
    b.is("cut to 380", b.x.end(380), true).is("to 400", b.x.feed(7, 7, 7, 7, 7), 400).tapeHas("400", 400);
    b.x.file();
    b.is("what came", b.x.at(379, false) + " " + b.x.at(383, false) + " " + b.x.at(399, false), "5 7 7");
    b.is("cut to 379", new Bench("").tape(many("x", 379)).x.feed(1, 1, 1, 1, 1), 399);
  }

  // Promise 2: "of each number the highest first"
  private static void feedOfHighBits() {
    Bench b = new Bench("numbers of all bits");
    b.x.feed(Integer.MIN_VALUE, Integer.MAX_VALUE, -1, 0, 0x01020380);
    b.x.file();
    int[] due = {128, 0, 0, 0, 127, 255, 255, 255, 255, 255, 255, 255, 0, 0, 0, 0, 1, 2, 3, 128};
    for (int i = 0; i < due.length; i++) {
      b.is("byte " + i, b.x.at(i, false), due[i]);
    }
  }

  // Promise 3: "false, and nothing happens, if it has fewer, or n is below 0"
  private static void endOfTape() {
    Bench b = new Bench("the TAPE's end");
    b.is("none", b.x.end(0) + " " + b.x.end(1) + " " + b.x.end(-1), "true false false");
    b.x.feed(0x61626364, 0, 0, 0, 0);
    for (int far : FAR) {
      b.is("end(" + far + ")", b.x.end(far), false);
    }
    b.is("end(-1)", b.x.end(-1), false).is("end(21)", b.x.end(21), false).tapeHas("those", 20);
    b.is("end(19)", b.x.end(19), true).is("end(20) then", b.x.end(20), false).tapeHas("that", 19);
    b.is("end(1)", b.x.end(1), true).is("end(2) then", b.x.end(2), false);
    b.x.file();
    b.is("first byte alone", b.fileText(), "a");
    b.x.feed(1, 1, 1, 1, 1);
    b.is("end(0)", b.x.end(0), true).is("end(1)", b.x.end(1), false).is("an empty FILE", b.x.file() + " " + b.x.count(0), "0 0");
  }

  // "of a KIND 0 to 3 (0 at first), with an INNER KIND 0 to 3, or none (at first)"; promise 8
  private static void kindsOfMost() {
    Bench b = new Bench("KINDS 0 to 3").file("a=\"x\"");
    b.is("at first", b.x.count(1) + " " + b.x.count(2), "0 -1");
    b.is("0 and 3", b.x.kind(3, false) + " " + b.x.count(1) + " " + b.x.kind(0, false) + " " + b.x.count(1), "1 3 1 0");
    b.is("inner 0 and 3", b.x.kind(3, true) + " " + b.x.count(2) + " " + b.x.kind(0, true) + " " + b.x.count(2), "1 3 0 0");
    b.is("inner none", b.x.kind(-1, true) + " " + b.x.count(2), "1 -1");
    b.x.kind(2, true);
    String before = b.all();
    for (int wrong : new int[] {-1, -2, 4, FAR[0], FAR[1], FAR[2], FAR[3]}) {
      b.throwing("kind " + wrong, ARGUMENT, () -> b.x.kind(wrong, false));
      if (wrong != -1) {
        b.throwing("inner " + wrong, ARGUMENT, () -> b.x.kind(wrong, true));
      }
    }
    b.is("nothing is told", b.all(), before).is("remembered", b.x.count(14), 6);
  }

  // KIND 0: "a LINE ends ahead of a byte 10, or at the end of the row"
  private static void lineEnds() {
    due(0, -1, "\n", "", "");
    due(0, -1, "a=x", "|x", "2-3");
    due(0, -1, "a=x\n", "|x", "2-3");
    due(0, -1, "\na=x", "|x", "3-4");
    due(0, -1, "a=x\nb=y", "|x|y", "2-3 6-7");
    due(0, -1, "a=x\n\nb=y\n\n", "|x|y", "2-3 7-8");
    due(0, -1, "a=\nx", "", "");
    due(0, -1, "a\n=x", "|x", "3-4");
    due(0, -1, "a=x\tb=y", "|x\tb=y", "2-7");
    due(0, -1, "a=x\u000bb=y", "|x\u000bb=y", "2-7");
    due(0, -1, "a=x\rb=y", "|x\rb=y", "2-7");
  }

  // "One whose first byte that is no BLANK is #, or that has no =, is skeleton."
  private static void lineSkeleton() {
    due(0, -1, "#=x", "", "");
    due(0, -1, " #=x", "", "");
    due(0, -1, "   #a=x", "", "");
    due(0, -1, "#", "", "");
    due(0, -1, "   ", "", "");
    due(0, -1, "a=x\n#b=y\nc=z", "|x|z", "2-3 11-12");
    due(0, -1, "\t#=x", "|x", "3-4");
    due(0, -1, "a#=x", "|x", "3-4");
    due(0, -1, "a #=x", "|x", "4-5");
    due(0, -1, "\"=x", "|x", "2-3");
    due(0, -1, "$=x", "|x", "2-3");
    due(0, -1, "=#x", "|#x", "1-3");
    due(0, -1, "= #x", "|#x", "2-4");
    due(0, -1, "ax", "", "");
    due(0, -1, "a<x", "", "");
    due(0, -1, "a>x", "", "");
    due(0, -1, "=x", "|x", "1-2");
    due(0, -1, "a\nb=y", "|y", "4-5");
  }

  // "its KEY is what is ahead of its first =, without BLANKS at both ends"; promise 21, "(0: it begins where the = is)"
  private static void lineKeys() {
    keyDue("ab=x", 0, 2);
    keyDue(" ab=x", 1, 2);
    keyDue("ab =x", 0, 2);
    keyDue("   a b   =x", 3, 3);
    keyDue("\tab\t=x", 0, 4);
    keyDue("a=x", 0, 1);
    keyDue("=x", 0, 0);
    keyDue(" =x", 1, 0);
    keyDue("    =x", 4, 0);
    keyDue("q\n  = x", 4, 0);
    keyDue("#\n a = x", 3, 1);
    keyDue("a==x", 0, 1);
    keyDue("==x", 0, 0);
  }

  private static void keyDue(String file, int begin, int bytes) {
    Bench b = new Bench("the key of <" + file + ">").file(file);
    b.is("PIECES", b.x.count(3), 1).is("begin", b.x.key(0, 0), begin).is("bytes", b.x.key(0, 1), bytes);
  }

  // "its VALUE what is behind that =, without BLANKS ahead, to the LINE's end: a PIECE, if it has bytes"
  private static void lineValues() {
    due(0, -1, "a=", "", "");
    due(0, -1, "a= ", "", "");
    due(0, -1, "a=    ", "", "");
    due(0, -1, "a=\nb= \nc=z", "|z", "9-10");
    due(0, -1, "a=x", "|x", "2-3");
    due(0, -1, "a= x", "|x", "3-4");
    due(0, -1, "a=   x", "|x", "5-6");
    due(0, -1, "a=x ", "|x ", "2-4");
    due(0, -1, "a= x \n", "|x ", "3-5");
    due(0, -1, "a=\tx", "|\tx", "2-4");
    due(0, -1, "a=\t", "|\t", "2-3");
    due(0, -1, "a==", "|=", "2-3");
    due(0, -1, "a= =", "|=", "3-4");
    due(0, -1, "==x", "|=x", "1-3");
  }

  // "BACK n means 10, BACK t 9, BACK BACK one BACK, BACK BLANK a BLANK; another BACK means itself"
  private static void lineEscapes() {
    due(0, -1, "a=\\n", "|\n", "2-4");
    due(0, -1, "a=\\t", "|\t", "2-4");
    due(0, -1, "a=\\\\", "|\\", "2-4");
    due(0, -1, "a=\\ ", "| ", "2-4");
    due(0, -1, "a= \\ ", "| ", "3-5");
    due(0, -1, "a=\\  ", "|  ", "2-5");
    due(0, -1, "a=\\", "|\\", "2-3");
    due(0, -1, "a=\\\nb=y", "|\\|y", "2-3 6-7");
    due(0, -1, "a=\\\\\nb=y", "|\\|y", "2-4 7-8");
    due(0, -1, "a=\\\\n", "|\\n", "2-5");
    due(0, -1, "a=\\\\\\n", "|\\\n", "2-6");
    due(0, -1, "a=\\\\\\", "|\\\\", "2-5");
    for (String other : new String[] {"m", "o", "s", "u", "N", "T", "\"", "!", "\u001f", "[", "]", "\t", "0"}) {
      due(0, -1, "a=\\" + other, "|\\" + other, "2-4");
    }
  }

  // KIND 1: "ROWS end ahead of a byte 10, or at the end, CELLS in them ahead of a , too", "if it has bytes"
  private static void tableCells() {
    due(1, -1, ",", "", "");
    due(1, -1, "\n", "", "");
    due(1, -1, ",\n,", "", "");
    due(1, -1, "a", "|a", "0-1");
    due(1, -1, "a,", "|a", "0-1");
    due(1, -1, ",a", "|a", "1-2");
    due(1, -1, "a\n", "|a", "0-1");
    due(1, -1, "\na", "|a", "1-2");
    due(1, -1, "a,b\nc", "|a|b|c", "0-1 2-3 4-5");
    due(1, -1, "a,,b\n\nc", "|a|b|c", "0-1 3-4 6-7");
    due(1, -1, "a+b-c;d", "|a+b-c;d", "0-7");
    due(1, -1, "a\tb\u000bc\rd", "|a\tb\u000bc\rd", "0-7");
    due(1, -1, " , ", "| | ", "0-1 2-3");
  }

  // "what is behind that up to the next " that is no first of two (two " side by side count as one byte within)"
  private static void tableQuoted() {
    due(1, -1, "\"\"", "", "");
    due(1, -1, "\"\",b", "|b", "3-4");
    due(1, -1, "\"a\"", "|a", "1-2");
    due(1, -1, "x,\"a\"", "|x|a", "0-1 3-4");
    due(1, -1, "x\n\"a\"", "|x|a", "0-1 3-4");
    due(1, -1, "\"a\"\"b\"", "|a\"b", "1-5");
    due(1, -1, "\"a\"\"\"", "|a\"", "1-4");
    due(1, -1, "\"\"\"a\"", "|\"a", "1-4");
    due(1, -1, "\"\"\"\"", "|\"", "1-3");
    due(1, -1, "\"\"\"\"\"\"", "|\"\"", "1-5");
    due(1, -1, "\"a\"b\"", "|a", "1-2");
    due(1, -1, "\"a,b\nc\"", "|a,b\nc", "1-6");
    due(1, -1, "\"a\\\"b\"", "|a\\", "1-3");
    due(1, -1, "!\"a\"", "|!\"a\"", "0-4");
    due(1, -1, "#\"a\"", "|#\"a\"", "0-4");
    due(1, -1, " \"a\"", "| \"a\"", "0-4");
  }

  // "or to the end of the row, is a PIECE, if it has bytes"
  private static void tableUnclosed() {
    due(1, -1, "\"", "", "");
    due(1, -1, "x,\"", "|x", "0-1");
    due(1, -1, "\"a", "|a", "1-2");
    due(1, -1, "\"a,b\nc", "|a,b\nc", "1-6");
    due(1, -1, "\"\"\"", "|\"", "1-3");
    due(1, -1, "\"a\"\"", "|a\"", "1-4");
    due(1, -1, "\"\"\"\"\"", "|\"\"", "1-5");
    due(1, -1, "\"a\"\",b", "|a\",b", "1-6");
    due(1, -1, "\"\n", "|\n", "1-2");
  }

  // "what is behind that " up to the CELL's end is skeleton (, and 10 within quotes end nothing)"
  private static void tableBehindQuotes() {
    due(1, -1, "\"a\"b", "|a", "1-2");
    due(1, -1, "\"a\"b,c", "|a|c", "1-2 5-6");
    due(1, -1, "\"a\"b\nc", "|a|c", "1-2 5-6");
    due(1, -1, "\"a\",b", "|a|b", "1-2 4-5");
    due(1, -1, "\"a\"\nb", "|a|b", "1-2 4-5");
    due(1, -1, "\"a\" \"b\",c", "|a|c", "1-2 8-9");
    due(1, -1, "\"a\" \",\"b", "|a|b", "1-2 7-8");
    due(1, -1, "\"\"b,c", "|c", "4-5");
    due(1, -1, "\"a\",\"b\"", "|a|b", "1-2 5-6");
  }

  // "Else all of the CELL is a PIECE, if it has bytes (no escapes)."
  private static void tableBare() {
    due(1, -1, "a\"\"b", "|a\"\"b", "0-4");
    due(1, -1, "a\"", "|a\"", "0-2");
    due(1, -1, "a\",\"b", "|a\"|b", "0-2 4-5");
    due(1, -1, "a\\nb", "|a\\nb", "0-4");
    due(1, -1, "&lt;", "|&lt;", "0-4");
  }

  // KIND 2: "from a < to the next >, or to the end, is skeleton"
  private static void markupTags() {
    due(2, -1, "<", "", "");
    due(2, -1, "<a", "", "");
    due(2, -1, "<a>", "", "");
    due(2, -1, "<>", "", "");
    due(2, -1, "<><>", "", "");
    due(2, -1, "a<", "|a", "0-1");
    due(2, -1, "a<b", "|a", "0-1");
    due(2, -1, "<b>a", "|a", "3-4");
    due(2, -1, "a<b>c", "|a|c", "0-1 4-5");
    due(2, -1, "a>b", "|a>b", "0-3");
    due(2, -1, ">", "|>", "0-1");
    due(2, -1, "<<>a", "|a", "3-4");
    due(2, -1, "<a>>b", "|>b", "3-5");
    due(2, -1, "<\n>a", "|a", "3-4");
    due(2, -1, "a=b;c?d", "|a=b;c?d", "0-7");
  }

  // "What lies between these, without BLANKS and bytes 10 at both ends, is a PIECE, if it has bytes."
  private static void markupEnds() {
    due(2, -1, " ", "", "");
    due(2, -1, "\n", "", "");
    due(2, -1, " \n \n", "", "");
    due(2, -1, "<p> \n <p>", "", "");
    due(2, -1, " \na\n ", "|a", "2-3");
    due(2, -1, "<p>\n a \n<p>", "|a", "5-6");
    due(2, -1, " a \n b ", "|a \n b", "1-6");
    due(2, -1, "\ta\t", "|\ta\t", "0-3");
    due(2, -1, "\u000ba\u000b", "|\u000ba\u000b", "0-3");
    due(2, -1, "\t", "|\t", "0-1");
    due(2, -1, "!a\u001f", "|!a\u001f", "0-3");
  }

  // "&lt; means <, &gt; >, &amp; &; another & itself"
  private static void markupEscapes() {
    due(2, -1, "&lt;", "|<", "0-4");
    due(2, -1, "&gt;", "|>", "0-4");
    due(2, -1, "&amp;", "|&", "0-5");
    due(2, -1, "&amp;lt;", "|&lt;", "0-8");
    due(2, -1, "&lt;&gt;&amp;", "|<>&", "0-13");
    for (String other : new String[] {"&", "&l", "&lt", "&gt", "&am", "&amp", "&;", "&l;", "&t;", "&it;", "&LT;", "&lt:", "&amp:",
        "&amq;", "&anp;", "& lt;", "&l t;", "&lt ;", "&ltx;", "&quot;", "&&", "lt;"}) {
      due(2, -1, other, "|" + other, "0-" + other.length());
    }
    due(2, -1, "&&lt;", "|&<", "0-5");
    due(2, -1, "&l&lt;", "|&l<", "0-6");
    due(2, -1, "&lt<x>;", "|&lt|;", "0-3 6-7");
    due(2, -1, "&amp<x>;", "|&amp|;", "0-4 7-8");
    due(2, -1, "&amp \n;", "|&amp \n;", "0-7");
  }

  // KIND 3: "what is behind a " up to the next " that is not escaped", "if it has bytes"
  private static void quotesEnds() {
    due(3, -1, "a", "", "");
    due(3, -1, "\"\"", "", "");
    due(3, -1, "\"\" \"a\"", "|a", "4-5");
    due(3, -1, "\"a\"", "|a", "1-2");
    due(3, -1, "x\"a\"y", "|a", "2-3");
    due(3, -1, "\"a\\\"b\"", "|a\"b", "1-5");
    due(3, -1, "\"a\\\\\"b\"", "|a\\", "1-4");
    due(3, -1, "\"a\\\\\\\"b\"", "|a\\\"b", "1-7");
    due(3, -1, "\"a\"\"b\"", "|a|b", "1-2 4-5");
    due(3, -1, "\\\"a\"", "|a", "2-3");
    due(3, -1, "\"a,\nb\"", "|a,\nb", "1-5");
    due(3, -1, "\" \"", "| ", "1-2");
  }

  // "or to the end"
  private static void quotesUnclosed() {
    due(3, -1, "\"", "", "");
    due(3, -1, "\"a", "|a", "1-2");
    due(3, -1, "\"\\", "|\\", "1-2");
    due(3, -1, "\"a\\\"", "|a\"", "1-4");
    due(3, -1, "\"a\\\\", "|a\\", "1-4");
    due(3, -1, "\"a:", "|a:", "1-3");
    due(3, -1, "\"a\" \"", "|a", "1-2");
    due(3, -1, "\"a\"\"", "|a", "1-2");
    due(3, -1, "\"a\" \"b", "|a|b", "1-2 5-6");
  }

  // "unless the first byte behind that closing ", BLANKS and bytes 10 aside, is a :"
  private static void quotesKeys() {
    due(3, -1, "\"a\":", "", "");
    due(3, -1, "\"a\" :", "", "");
    due(3, -1, "\"a\"\n:", "", "");
    due(3, -1, "\"a\" \n \n :", "", "");
    due(3, -1, "\"a\"\t:", "|a", "1-2");
    due(3, -1, "\"a\"\u000b:", "|a", "1-2");
    due(3, -1, "\"a\";", "|a", "1-2");
    due(3, -1, "\"a\"9", "|a", "1-2");
    due(3, -1, "\"a\"x:", "|a", "1-2");
    due(3, -1, "\"a\" \n", "|a", "1-2");
    due(3, -1, "\"a\":\"b\"", "|b", "5-6");
    due(3, -1, "\"a\" \"b\":", "|a", "1-2");
    due(3, -1, "\"a:\"", "|a:", "1-3");
    due(3, -1, "\":\"", "|:", "1-2");
    due(3, -1, "\"\":\"b\"", "|b", "4-5");
  }

  // "BACK n, BACK t, BACK BACK as in LINES, BACK " means "; another BACK means itself"
  private static void quotesEscapes() {
    due(3, -1, "\"\\n\\t\\\\\\\"\"", "|\n\t\\\"", "1-9");
    due(3, -1, "\"\\\\n\"", "|\\n", "1-4");
    for (String other : new String[] {" ", "m", "o", "s", "u", "N", "T", "!", "#", "[", "]", "/", "\n", "0"}) {
      due(3, -1, "\"\\" + other + "\"", "|\\" + other, "1-3");
    }
  }

  // "With an INNER KIND the TEXT of each PIECE of the KIND is cut by the INNER KIND"
  private static void withinOthers() {
    due(0, 1, "a=x,y\nb=z", "|x|y|z", "2-3 4-5 8-9");
    due(0, 3, "a=x", "", "");
    due(0, 3, "a=\"\"\nb=\"y\"", "|y", "8-9");
    due(0, 2, "a=<b>", "", "");
    due(0, 2, "a=\\n\\ ", "", "");
    due(0, 2, "a=<b>x", "|x", "5-6");
    due(1, 0, "a,b=", "", "");
    due(1, 0, "a,b=x", "|x", "4-5");
    due(2, 1, ",<p>,", "", "");
    due(3, 0, "\"a=x\\nb=y\"", "|x|y", "3-4 8-9");
    due(3, 0, "\"a=x\\\\nb=y\"", "|x\nb=y", "3-10");
  }

  // "or to the end of the row": the row of an INNER KIND is the TEXT, not the FILE
  private static void withinEnds() {
    due(0, 1, "a=\"x\nb=y", "|x|y", "3-4 7-8");
    due(0, 1, "a=\"\nb=y", "|y", "6-7");
    due(0, 2, "a=<x\nb=y", "|y", "7-8");
    due(0, 3, "a=\"x\nb=\"y", "|x|y", "3-4 8-9");
    due(0, 3, "a=\"uvw\"\nb=\"z", "|uvw|z", "3-6 11-12");
    due(0, 3, "a=\"x\" \"yy\"\nb=\"z", "|x|yy|z", "3-4 7-9 14-15");
    due(0, 1, "a=\"x,\"\"\",y\nb=\"z\nc=w", "|x,\"|y|z|w", "3-7 9-10 14-15 18-19");
    due(0, 2, "a=x<p>y\nb=<z\nc=w", "|x|y|w", "2-3 6-7 15-16");
    due(0, 0, "a=x=y\\nz=w\nb=v=\nc=u=t", "|y|w|t", "4-5 9-10 20-21");
    due(0, 3, "a=\"x\"\n:=y", "|x", "3-4");
    due(0, 3, "a=\"x\" :\nb=\"y\"", "|y", "11-12");
    due(1, 3, "\"\"\"a\",b", "|a", "3-4");
    due(1, 0, "a=\\,b=\\n", "|\\|\n", "2-3 6-8");
    due(2, 2, "&lt;a<p>b", "|b", "8-9");
    due(3, 3, "\"\\\"a\" \"b\"", "|a", "3-4");
  }

  // "A PIECE lies in the FILE from where the first of its bytes (or what that came from) begins to where the last one ends."
  private static void withinPlaces() {
    due(0, 1, "a=\\t,\\\\", "|\t|\\", "2-4 5-7");
    due(0, 1, "a=\\\\n", "|\\n", "2-5");
    due(1, 2, "\"<b>\"\"x\"\"\"", "|\"x\"", "4-9");
    due(2, 3, "\"&lt;\"", "|<", "1-5");
    due(2, 0, "a=&amp;lt;", "|&lt;", "2-10");
    due(2, 2, "&amp;lt;", "|<", "0-8");
    due(3, 1, "\"\\\"a\\\"\\\"b\\\"\"", "|a\"b", "3-9");
    due(3, 1, "\"a,b\\\"", "|a|b\"", "1-2 3-6");
    due(0, 0, "a=b=\\\\\\\\", "|\\", "4-8");
    Bench b = cutBy(3, 1, "\"\\\"a\\\"\\\"b\\\"\"");
    b.is("origins", b.x.origin(0, 0) + " " + b.x.origin(0, 1) + " " + b.x.origin(0, 2) + " " + b.x.origin(0, 3), "3 4 8 -1");
    b.is("holders", b.x.holder(2) + " " + b.x.holder(3) + " " + b.x.holder(8) + " " + b.x.holder(9), "-1 0 0 -1");
  }

  // "LETTERS or not (not at first): with it a PIECE without a letter a to z, A to Z is skeleton"; promise 9
  private static void lettersRule() {
    Bench b = new Bench("LETTERS").file("a=1");
    b.is("not at first", b.x.count(7) + " " + b.x.count(3), "0 1");
    for (int sign = 0; sign < 256; sign++) {
      if (sign != 10 && sign != 32) {
        boolean letter = sign >= 'a' && sign <= 'z' || sign >= 'A' && sign <= 'Z';
        Bench c = new Bench("LETTERS and byte " + sign).file("a=1" + (char) sign + "2");
        c.is("with", c.x.rule(0, 1), letter ? 1 : 0).is("without", c.x.rule(0, 0), 1);
      }
    }
    b.x.rule(0, 1);
    b.is("a byte 10 that an n means", b.file("a=\\n").x.count(3), 0).is("an n", b.file("a=\\\\n").x.count(3), 1);
    b.is("a letter at the end", b.file("a=12z").x.count(3), 1).is("in the key alone", b.file("abc=12").x.count(3), 0);
    for (int wrong : new int[] {-1, 2, FAR[0], FAR[3]}) {
      b.throwing("letters " + wrong, ARGUMENT, () -> b.x.rule(0, wrong)).is("it stays", b.x.count(7), 1);
    }
    for (int wrong : new int[] {-1, 2, FAR[0], FAR[3]}) {
      b.throwing("rule " + wrong, ELEMENT, () -> b.x.rule(wrong, 1)).throwing("ahead of n", ELEMENT, () -> b.x.rule(wrong, 99));
    }
    b.is("as it was", b.x.count(7) + " " + b.x.count(8), "1 1");
  }

  // "LEAST ...: one whose TEXT has fewer bytes is"
  private static void leastRule() {
    Bench b = new Bench("LEAST").file("a=x\nb=xy\nc=xyz\nd=\\n\ne=\\n\\n\nf=  x");
    b.is("1 at first", b.x.count(8) + b.texts(), "1|x|xy|xyz|\n|\n\n|x");
    b.is("2", b.x.rule(1, 2) + b.texts(), "3|xy|xyz|\n\n").is("3", b.x.rule(1, 3) + b.texts(), "1|xyz");
    b.is("4", b.x.rule(1, 4) + b.texts(), "0").is("1", b.x.rule(1, 1), 6);
    b.kinds(2, 1).file("<p>&lt;,&lt;&lt;").is("of the inner TEXT", b.x.rule(1, 2) + b.texts(), "1|<<");
  }

  // "LEAST 1 to 40"; promise 9
  private static void leastOfMost() {
    Bench b = new Bench("LEAST 1 to 40").file("a=" + many("x", 39) + "\nb=" + many("y", 40) + "\nc=" + many("z", 41));
    b.is("39", b.x.rule(1, 39), 3).is("40", b.x.rule(1, 40) + " " + b.x.piece(0, 2) + " " + b.x.piece(1, 2), "2 40 41");
    for (int wrong : new int[] {0, -1, 41, FAR[0], FAR[3]}) {
      b.throwing("least " + wrong, ARGUMENT, () -> b.x.rule(1, wrong)).is("it stays", b.x.count(8) + " " + b.x.count(3), "40 2");
    }
    b.is("1", b.x.rule(1, 1) + " " + b.x.count(8), "3 1");
  }

  // "LOCKS (words, at most 4)"; "LOCK (6: there are 4; 7: it is one already)"; promises 10 and 11
  private static void locksOfMost() {
    Bench b = new Bench("4 LOCKS").file("a=1\nb=2\nc=3\nd=4\ne=5");
    b.is("none at first", b.x.count(9), 0);
    for (int i = 1; i <= 4; i++) {
      b.is("lock", b.tape("" + (char) ('a' + i - 1)).x.lock(), 5 - i).is("LOCKS", b.x.count(9), i);
      String word = "" + (char) ('a' + i / 2);
      if (i < 4 && i > 1) {
        b.throwing("again", STATE, () -> b.tape(word).x.lock()).is("why", b.x.why(), 7).is("LOCKS", b.x.count(9), i);
      }
    }
    String before = b.all();
    b.throwing("a fifth", STATE, () -> b.tape("e").x.lock()).is("why", b.x.why(), 6).is("state", b.all(), before);
    b.throwing("one of the four", STATE, () -> b.tape("d").x.lock()).is("why", b.x.why(), 6).is("state", b.all(), before);
    b.throwing("no word", ARGUMENT, () -> b.tape("E").x.lock()).is("why stays", b.x.why(), 6);
    b.is("remembered", b.x.count(14), 4).is("unlock", b.x.unlock() + " " + b.x.count(9), "5 0");
    b.is("unlock without any", b.x.unlock() + " " + b.x.count(9), "5 0").is("lock", b.tape("e").x.lock(), 4);
    b.is("one that was", b.tape("a").x.lock(), 3).is("LOCKS", b.x.count(9), 2);
    b.x.unlock();
    b.is("the first one again", b.tape("e").x.lock() + " " + b.x.count(9), "4 1").is("the second one, too", b.tape("a").x.lock() + " " + b.x.count(9), "3 2");
    b.throwing("a begin of one is another one", ARGUMENT, () -> b.tape("").x.lock());
    b.is("longer", b.tape("ee").x.lock() + " " + b.x.count(9), "3 3");
  }

  // "a word of 1 to 8 letters a to z"; promise 10, "(no BLANKS)"
  private static void lockWords() {
    Bench b = new Bench("words of LOCKS").file("abcdefgh=1\nz=2");
    for (String wrong : new String[] {"", "abcdefghi", many("a", 400), " a", "a ", "a b", "A", "aZ", "`", "{", "a`", "a{", "@", "[", "1", "\0",
        "a\0", "abcdefgH", "a;", "\u00e9"}) {
      b.throwing("<" + wrong + ">", ARGUMENT, () -> b.tape(wrong).x.lock()).tapeHas("it", 0);
    }
    b.is("none came", b.x.count(9) + " " + b.x.count(14) + " " + b.x.count(3), "0 0 2");
    b.is("1 letter", b.tape("z").x.lock(), 1).is("7", b.tape("bcdefgh").x.lock(), 1).is("8", b.tape("abcdefgh").x.lock(), 0).tapeHas("it", 0);
  }

  // "with KIND 0 those of a LINE whose KEY begins with one of them are"
  private static void lockKeys() {
    Bench b = new Bench("KEYS and LOCKS").file("ab=1\nabc=2\nabcd=3\n  abc  =4\nAbc=5\nxabc=6\n=7\nab c=8\nabC=9");
    b.is("lock", b.tape("abc").x.lock(), 6).is("texts", b.texts(), "|1|5|6|7|8|9");
    b.is("a second one", b.tape("x").x.lock(), 5).is("texts", b.texts(), "|1|5|7|8|9");
    Bench c = new Bench("a KEY of 7 to 9").file("abcdefg=1\nabcdefgh=2\nabcdefghi=3");
    c.is("8", c.tape("abcdefgh").x.lock() + c.texts(), "1|1");
    Bench d = new Bench("a KEY is shorter than what is behind it").file("a=bc");
    d.is("ab", d.tape("ab").x.lock(), 1).is("a", d.tape("a").x.lock(), 0);
    Bench e = new Bench("a KEY at the row's end").file("k=1\nab=c");
    e.is("abc", e.tape("abc").x.lock(), 2);
  }

  // "(by the KIND, not the INNER one)"
  private static void lockKinds() {
    Bench b = new Bench("LOCKS and KINDS").file("a=\"a=1\"\nb=\"a=2\"");
    b.is("KIND 0", b.tape("a").x.lock(), 1);
    for (int kind = 1; kind <= 3; kind++) {
      b.is("KIND " + kind, b.x.kind(kind, false), kind == 2 ? 1 : 2);
    }
    b.is("INNER KIND 0 in 3", b.x.kind(0, true) + b.texts(), "2|1|2").is("INNER KIND 3 in 0", b.x.kind(0, false) + " " + b.x.kind(3, true), "1 1");
    b.is("of the line of b", b.texts(), "|a=2").is("INNER KIND 0 in 0", b.x.kind(0, true) + b.texts(), "1|2\"");
  }

  // "Of what is left the first 40 are PIECES, numbered from 0 on as they lie; others are skeleton, too."
  private static void firstForty() {
    for (int cells = 39; cells <= 41; cells++) {
      Bench b = cutBy(1, -1, many("x,", cells - 1) + "y");
      int due = Math.min(cells, 40);
      b.is("PIECES", b.x.count(3), due).is("last", b.x.piece(due - 1, 0), 2 * due - 2);
      b.is("holder of the last cell", b.x.holder(2 * cells - 2), cells <= 40 ? cells - 1 : -1);
      b.is("bytes in none", b.x.count(6), 2 * cells - 1 - due).is("LIKE ones", b.x.piece(0, 5), Math.min(cells - 1, 40));
      b.throwing("no such one", IndexOutOfBoundsException.class, () -> b.x.piece(due, 0));
      b.is("in BUILT", b.tell(due - 1, "zz"), 2 * cells).is("the rest", b.built().endsWith(cells > 40 ? "zz,y" : ",zz"), true);
      b.is("words", b.x.count(11), due).is("found", b.tape("y").x.found(), 0);
    }
    Bench c = cutBy(0, 1, "a=" + many("x,", 39) + "y,z\nb=w");
    c.is("of inner ones", c.x.count(3), 40).is("last", c.text(39), "y").is("holder", c.x.holder(80) + " " + c.x.holder(82), "39 -1");
    c.is("over a line's end", cutBy(0, 1, "a=" + many("x,", 38) + "y\nb=z,w").texts().endsWith("|y|z"), true);
    c.is("a FILE full of cells", cutBy(1, -1, many("x,", 200)).x.count(3), 40);
  }

  private static void fortyBehindRules() {
    Bench b = cutBy(1, -1, many("1,", 45) + many("ab,", 41) + "c");
    b.is("all", b.x.count(3), 40).is("LETTERS", b.x.rule(0, 1), 40).is("first", b.text(0), "ab");
    b.is("none is told aside", b.x.count(6), 45 * 2 + 41 * 3 + 1 - 80);
    b.x.rule(0, 0);
    b.is("LEAST", b.x.rule(1, 2) + " " + b.x.piece(0, 0), "40 90");
    Bench c = new Bench("LOCKS").file(many("a=1\n", 30) + many("b=2\n", 40) + "c=3");
    c.is("10 of b", c.x.count(3) + c.text(29) + c.text(30), "4012").is("locked", c.tape("a").x.lock() + c.text(0), "402");
    c.is("c then", c.tape("b").x.lock() + c.texts(), "1|3");
  }

  // "CUT, whenever the FILE, KIND, INNER KIND or a RULE is told (also as it was): ... nothing is TOLD for any."
  private static void cutWhenTold() {
    Bench b = new Bench("CUT").file("a=x\nb=y");
    for (int call = 0; call < 8; call++) {
      b.tell(0, "p");
      b.tell(1, "");
      b.is("TOLD", b.x.count(4) + b.built(), "2a=p\nb=");
      int pieces = tellAsItWas(b, call);
      b.is("PIECES of call " + call, pieces, 2).is("TOLD", b.x.count(4) + b.built(), "0a=x\nb=y");
      b.is("NOW", b.now(0) + b.now(1) + b.x.piece(0, 4), "xy0");
    }
  }

  private static int tellAsItWas(Bench b, int call) {
    switch (call) {
      case 0:
        return b.tape("a=x\nb=y").x.file();
      case 1:
        return b.x.kind(0, false);
      case 2:
        return b.x.kind(-1, true);
      case 3:
        return b.x.rule(0, 0);
      case 4:
        return b.x.rule(1, 1);
      case 5:
        return b.tape("q").x.lock();
      case 6:
        return b.x.unlock();
      default:
        return b.acts("any") + 1;
    }
  }
}
