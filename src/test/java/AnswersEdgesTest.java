import java.util.NoSuchElementException;
import java.util.function.LongSupplier;

/** The edges of what is asked (promises 18 to 32, "==== 3", exceptions): a case for each sentence, at the edge and beside it. */
public final class AnswersEdgesTest {
  private static final Class<?> ARGUMENT = IllegalArgumentException.class;
  private static final Class<?> STATE = IllegalStateException.class;
  private static final Class<?> INDEX = IndexOutOfBoundsException.class;
  private static final Class<?> ELEMENT = NoSuchElementException.class;
  private static final int LEAST = Integer.MIN_VALUE;
  private static final int MOST = Integer.MAX_VALUE;
  private static final String TWO = "a=x\nb=y";

  public static void main(String[] args) {
    noSuchPiece();
    noPieceAtAll();
    anotherWhatOfPieces();
    anotherWhatOfKeys();
    anotherWhatOfCounts();
    placesOfPieces();
    piecesInBuilt();
    wordsOfNow();
    knownOnes();
    octets();
    origins();
    originsAnew();
    keysOfOtherKinds();
    holders();
    bytesOfFileAndBuilt();
    likeOnes();
    wouldOfMost();
    wouldNotBe();
    foundWords();
    foundLetters();
    foundBits();
    keptOnes();
    keptBehindQuotes();
    keptByRules();
    twice();
    twiceOfForty();
    twiceAnew();
    imageOfNone();
    imageOfAll();
    imageLeaves();
    counts();
    countOfUnlike();
    firstExceptionOfSeveral();
    throwingChangesNothing();
    refusedCallsUseTheTapeUp();
    asking();
    System.out.println(Bench.allChecks() + " checks, " + Bench.wrongOnes() + " wrong");
    System.exit(Bench.wrongOnes() == 0 ? 0 : 1);
  }

  private static String many(String text, int times) {
    return text.repeat(times);
  }

  private static Bench of(String title, int kind, int inner, String file) {
    return new Bench(title).kinds(kind, inner).file(file);
  }

  private static String row(int... answers) {
    StringBuilder all = new StringBuilder();
    for (int answer : answers) {
      all.append(all.length() == 0 ? "" : " ").append(answer);
    }
    return all.toString();
  }

  // "IndexOutOfBoundsException: there is no such PIECE."
  private static void noSuchPiece() {
    for (int pieces : new int[] {1, 2, 39, 40}) {
      Bench b = of(pieces + " PIECES", 1, -1, many("x,", pieces));
      for (int wrong : new int[] {-1, pieces, pieces + 1, 64, LEAST, MOST}) {
        b.throwing("piece", INDEX, () -> b.x.piece(wrong, 0)).throwing("octet", INDEX, () -> b.x.octet(wrong, 0, false));
        b.throwing("octet now", INDEX, () -> b.x.octet(wrong, 0, true)).throwing("origin", INDEX, () -> b.x.origin(wrong, 0));
        b.throwing("key", INDEX, () -> b.x.key(wrong, 0)).throwing("like", INDEX, () -> b.x.like(wrong, 0));
        b.throwing("would", INDEX, () -> b.x.would(wrong)).throwing("kept", INDEX, () -> b.x.kept(wrong) ? 1 : 0);
      }
      int last = pieces - 1;
      b.is("the last", row(b.x.piece(last, 0), b.x.octet(last, 0, false), b.x.octet(last, 0, true), b.x.origin(last, 0)), row(2 * last, 120, 120, 2 * last));
      b.is("of it", row(b.x.key(last, 0), b.x.like(last, 0), b.x.would(last)) + b.x.kept(last), row(-1, 0, 0) + "true");
    }
  }

  private static void noPieceAtAll() {
    Bench b = new Bench("a new object");
    b.throwing("piece", INDEX, () -> b.x.piece(0, 0)).throwing("octet", INDEX, () -> b.x.octet(0, 0, false));
    b.throwing("origin", INDEX, () -> b.x.origin(0, 0)).throwing("key", INDEX, () -> b.x.key(0, 0));
    b.throwing("like", INDEX, () -> b.x.like(0, 0)).throwing("would", INDEX, () -> b.x.would(0));
    b.throwing("kept", INDEX, () -> b.x.kept(0) ? 1 : 0).is("twice", b.x.twice(), true).is("found", b.tape("a").x.found(), 0);
    b.is("holder", row(b.x.holder(0), b.x.at(0, true), b.x.at(0, false), b.x.memory(0, true, 0)), "-1 -1 -1 -1");
    b.file("none").is("twice without PIECES", b.x.twice(), true).is("bytes in none", b.x.count(6), 4);
  }

  // Promise 18: "NoSuchElementException: another what"
  private static void anotherWhatOfPieces() {
    Bench b = new Bench("what of a PIECE").file(TWO);
    for (int wrong : new int[] {-1, 10, 11, LEAST, MOST}) {
      b.throwing("what " + wrong, ELEMENT, () -> b.x.piece(1, wrong)).throwing("no such PIECE first", INDEX, () -> b.x.piece(2, wrong));
    }
    b.is("0 and 9", row(b.x.piece(1, 0), b.x.piece(1, 9)), "6 6");
  }

  // Promise 21: "NoSuchElementException: another what"
  private static void anotherWhatOfKeys() {
    for (int kind = 0; kind <= 3; kind++) {
      Bench b = of("what of a KEY", kind, -1, "a=\"b\"");
      for (int wrong : new int[] {-1, 2, LEAST, MOST}) {
        b.throwing("what " + wrong, ELEMENT, () -> b.x.key(0, wrong)).throwing("no such PIECE first", INDEX, () -> b.x.key(1, wrong));
      }
      b.is("0 and 1", row(b.x.key(0, 0), b.x.key(0, 1)), kind == 0 ? "0 1" : "-1 -1");
    }
  }

  // Promise 32: "NONE for another what"
  private static void anotherWhatOfCounts() {
    Bench b = new Bench("what of a count").file(TWO);
    for (int wrong : new int[] {-1, 15, 16, LEAST, MOST}) {
      b.is("count(" + wrong + ")", b.x.count(wrong), -1);
    }
    b.is("0 and 14", row(b.x.count(0), b.x.count(14)), "7 0");
  }

  // Promise 18: 0 to 3
  private static void placesOfPieces() {
    Bench b = new Bench("a PIECE of one byte at both ends").kinds(1, -1).file("x,y");
    b.is("first", row(b.x.piece(0, 0), b.x.piece(0, 1), b.x.piece(0, 2), b.x.piece(0, 3)), "0 1 1 1");
    b.is("last", row(b.x.piece(1, 0), b.x.piece(1, 1), b.x.piece(1, 2), b.x.piece(1, 3)), "2 3 1 1");
    b.tell(1, "");
    b.is("NOW of none", row(b.x.piece(1, 2), b.x.piece(1, 3), b.x.piece(1, 4), b.x.piece(1, 8), b.x.piece(1, 9)), "1 0 1 0 2");
    b.tell(1, many("z", 60));
    b.is("NOW of 60", row(b.x.piece(1, 2), b.x.piece(1, 3), b.x.piece(1, 4), b.x.piece(1, 8), b.x.piece(1, 9)), "1 60 1 60 2");
    b.x.free(1);
    b.is("freed", row(b.x.piece(1, 2), b.x.piece(1, 3), b.x.piece(1, 4), b.x.piece(1, 8), b.x.piece(1, 9)), "1 1 0 1 2");
    Bench c = new Bench("a TEXT is shorter than what it lies in").file("a=\\n\\t");
    c.is("all", row(c.x.piece(0, 0), c.x.piece(0, 1), c.x.piece(0, 2), c.x.piece(0, 8)), "2 6 2 4");
  }

  // Promise 18: "8 how many bytes it is in BUILT, 9 where it begins in BUILT"
  private static void piecesInBuilt() {
    Bench b = of("PIECES in BUILT", 1, -1, "x,\"y\",z");
    b.tell(0, "p,q");
    b.is("between two \"", row(b.x.piece(0, 8), b.x.piece(0, 9), b.x.piece(1, 9), b.x.piece(2, 9)), "5 0 7 10");
    b.tell(1, "\"");
    b.is("each \" twice", row(b.x.piece(1, 8), b.x.piece(1, 9), b.x.piece(2, 9)), "2 7 11");
    b.tell(0, "");
    b.is("of none", row(b.x.piece(0, 8), b.x.piece(0, 9), b.x.piece(1, 9)), "0 0 2");
    Bench c = of("the last of 40", 1, -1, many("x,", 39) + "y,z");
    c.tell(0, many("\"", 60));
    c.is("of 122", row(c.x.piece(0, 8), c.x.piece(39, 9), c.x.count(5)), "122 199 202");
  }

  // "WORDS: rows of letters a to z, A to Z in NOW, as long as can be"
  private static void wordsOfNow() {
    String[] told = {"", " ", "a", "z", "A", "Z", "`", "{", "@", "[", "ab", "a b", " a ", "a1b", "aB", "a\u00e9b", "a-b_c", "1"};
    int[] due = {0, 0, 1, 1, 1, 1, 0, 0, 0, 0, 1, 2, 1, 2, 1, 2, 3, 0};
    Bench b = new Bench("WORDS").file("k=one two\nl=\\n");
    b.is("of TEXT", row(b.x.piece(0, 6), b.x.piece(1, 6), b.x.count(11)), "2 0 2");
    for (int i = 0; i < told.length; i++) {
      b.tell(0, told[i]);
      b.is("of <" + told[i] + ">", row(b.x.piece(0, 6), b.x.count(11)), row(due[i], due[i]));
    }
    b.tell(0, many("a ", 30));
    b.is("of 30", b.x.piece(0, 6), 30).is("no word over two PIECES", of("", 1, -1, "a,b").x.count(11), 2);
    Bench c = of("the PIECE behind does not count", 1, -1, "1,a,1a,a1,b");
    c.is("WORDS", row(c.x.piece(0, 6), c.x.piece(1, 6), c.x.piece(2, 6), c.x.piece(3, 6), c.x.piece(4, 6), c.x.count(11)), "0 1 1 1 1 4");
  }

  // "KNOWN: the number of the latest pair of THE MEMORY with the TEXT of a PIECE; none."
  private static void knownOnes() {
    Bench b = new Bench("KNOWN").file("a=x\nb=xx\nc=y");
    b.is("none", row(b.x.piece(0, 7), b.x.piece(1, 7), b.x.piece(2, 7)), "-1 -1 -1");
    b.tell(0, "y");
    b.is("by TEXT, not by what was told", row(b.x.piece(0, 7), b.x.piece(1, 7), b.x.piece(2, 7)), "0 -1 -1");
    b.tell(1, "z");
    b.is("the older one", row(b.x.piece(0, 7), b.x.piece(1, 7), b.x.piece(2, 7)), "1 0 -1");
    b.tell(0, "");
    b.is("the latest one", row(b.x.piece(0, 7), b.x.piece(1, 7)), "0 1").is("undo", b.x.undo() + " " + b.x.piece(0, 7), "2 1");
    b.file("q=x\nr=x").is("LIKE ones of another FILE", row(b.x.piece(0, 7), b.x.piece(1, 7)), "1 1");
    b.kinds(3, -1).file("\"x\"").is("of another KIND", b.x.piece(0, 7), 1);
  }

  // Promise 19: "NONE without"
  private static void octets() {
    Bench b = new Bench("octets").file("a=xyz\nb=\\n");
    b.is("TEXT", row(b.x.octet(0, -1, false), b.x.octet(0, 0, false), b.x.octet(0, 2, false), b.x.octet(0, 3, false)), "-1 120 122 -1");
    b.is("NOW", row(b.x.octet(0, -1, true), b.x.octet(0, 0, true), b.x.octet(0, 2, true), b.x.octet(0, 3, true)), "-1 120 122 -1");
    b.is("of an escape", row(b.x.octet(1, 0, false), b.x.octet(1, 1, false)), "10 -1");
    b.is("far", row(b.x.octet(0, LEAST, false), b.x.octet(0, MOST, false), b.x.octet(0, LEAST, true), b.x.octet(1, MOST, true)), "-1 -1 -1 -1");
    b.is("far behind another one", row(b.x.octet(1, MOST - 1, false), b.x.octet(1, -3, false), b.x.octet(1, -1, false)), "-1 -1 -1");
    b.tell(0, "");
    b.is("NOW of none", row(b.x.octet(0, 0, true), b.x.octet(0, 0, false)), "-1 120");
    b.tell(0, many("q", 59) + "\u00ff");
    b.is("NOW of 60", row(b.x.octet(0, 59, true), b.x.octet(0, 60, true), b.x.octet(0, 3, false)), "255 -1 -1");
  }

  // Promise 20: "NONE without such a byte"
  private static void origins() {
    Bench b = new Bench("origins").file("a=x\\ny\nb=z");
    b.is("ORIGIN", row(b.x.origin(0, -1), b.x.origin(0, 0), b.x.origin(0, 1), b.x.origin(0, 2), b.x.origin(0, 3)), "-1 2 3 5 -1");
    b.is("far", row(b.x.origin(0, LEAST), b.x.origin(0, MOST), b.x.origin(1, MOST), b.x.origin(1, -1), b.x.origin(1, 1)), "-1 -1 -1 -1 -1");
    b.tell(0, "longer than it");
    b.is("NOW does not count", row(b.x.origin(0, 2), b.x.origin(0, 3), b.x.origin(1, 0)), "5 -1 9");
    b.tell(0, "");
    b.is("nor if it has none", row(b.x.origin(0, 0), b.x.origin(0, 2)), "2 5");
    Bench c = of("at the FILE's end", 2, -1, many("x", 395) + "&amp;");
    c.is("ORIGIN", row(c.x.origin(0, 394), c.x.origin(0, 395), c.x.origin(0, 396)), "394 395 -1");
    Bench d = of("of two KINDS", 2, 2, "&amp;lt;a");
    d.is("ORIGIN", row(d.x.origin(0, 0), d.x.origin(0, 1), d.x.origin(0, 2)) + d.text(0), "0 8 -1<a");
  }

  private static void originsAnew() {
    Bench b = new Bench("origins anew").file("a=x\nb=yz");
    b.is("ORIGIN", row(b.x.origin(0, 0), b.x.origin(1, 0), b.x.origin(1, 1)), "2 6 7");
    b.file("abc=x\nb=yz").is("of another FILE", row(b.x.origin(0, 0), b.x.origin(1, 0), b.x.origin(1, 1)), "4 8 9");
    b.x.kind(1, false);
    b.is("of another KIND", row(b.x.origin(0, 0), b.x.origin(0, 4), b.x.origin(1, 3)), "0 4 9").is("undo", b.x.undo() + " " + b.x.origin(0, 0), "0 4");
    b.x.rule(1, 2);
    b.is("behind one that is left out", row(b.x.origin(0, 0), b.x.origin(0, 1), b.x.count(3)), "8 9 1");
    b.x.rule(1, 1);
    b.x.rule(0, 1);
    b.file("a=12\nb=yz").is("behind one without letters", b.texts() + row(b.x.origin(0, 0), b.x.origin(0, 1)), "|yz7 8");
  }

  // Promise 21: "NONE with another KIND"
  private static void keysOfOtherKinds() {
    for (int kind = 0; kind <= 3; kind++) {
      for (int inner = 0; inner <= 3; inner++) {
        Bench b = of("KIND " + kind + ", INNER KIND " + inner, kind, inner, " ab =\"c=\\\"x\\\"\"");
        for (int i = 0; i < b.x.count(3); i++) {
          b.is("key", row(b.x.key(i, 0), b.x.key(i, 1)), kind == 0 ? "1 2" : "-1 -1");
        }
      }
    }
    Bench c = of("of several PIECES of a LINE", 0, 1, "a=x,y\n=z,w");
    c.is("keys", row(c.x.key(0, 0), c.x.key(1, 0), c.x.key(2, 0), c.x.key(3, 0)), "0 0 6 6");
    c.is("bytes", row(c.x.key(0, 1), c.x.key(1, 1), c.x.key(2, 1), c.x.key(3, 1)), "1 1 0 0");
  }

  // Promise 22: "The PIECE that lies at a place of the FILE; NONE."
  private static void holders() {
    Bench b = new Bench("holders").file("a=xy\nb=z");
    b.is("all", row(b.x.holder(-1), b.x.holder(0), b.x.holder(1), b.x.holder(2), b.x.holder(3), b.x.holder(4)), "-1 -1 -1 0 0 -1");
    b.is("more", row(b.x.holder(6), b.x.holder(7), b.x.holder(8), b.x.holder(LEAST), b.x.holder(MOST)), "-1 1 -1 -1 -1");
    b.tell(0, many("q", 60));
    b.is("BUILT does not count", row(b.x.holder(3), b.x.holder(4), b.x.holder(7), b.x.holder(40)), "0 -1 1 -1");
    b.tell(0, "");
    b.is("nor what is told", row(b.x.holder(2), b.x.holder(3)), "0 0");
    Bench c = of("side by side", 0, 1, "a=\\n\\t\nb=\\n,\\t");
    c.is("what an escape lies in", row(c.x.holder(2), c.x.holder(3), c.x.holder(4), c.x.holder(5), c.x.holder(9)), "-1 -1 0 0 -1");
  }

  // Promise 23: "NONE without"
  private static void bytesOfFileAndBuilt() {
    Bench b = new Bench("bytes").file("a=x");
    b.is("FILE", row(b.x.at(-1, false), b.x.at(0, false), b.x.at(2, false), b.x.at(3, false)), "-1 97 120 -1");
    b.is("BUILT", row(b.x.at(-1, true), b.x.at(0, true), b.x.at(2, true), b.x.at(3, true)), "-1 97 120 -1");
    b.tell(0, "yz");
    b.is("longer", row(b.x.at(3, false), b.x.at(3, true), b.x.at(4, true)), "-1 122 -1");
    b.tell(0, "");
    b.is("shorter", row(b.x.at(2, false), b.x.at(2, true), b.x.at(1, true)), "120 -1 61");
    b.is("far", row(b.x.at(LEAST, false), b.x.at(MOST, false), b.x.at(LEAST, true), b.x.at(MOST, true)), "-1 -1 -1 -1");
  }

  // Promise 24: "The k-th LIKE one of a PIECE; NONE without."; "LIKE ones: PIECES with the same TEXT (itself, too)"
  private static void likeOnes() {
    Bench b = new Bench("LIKE ones").file("a=x\nb=xx\nc=x\nd=X\ne= x");
    b.is("of 0", row(b.x.like(0, -1), b.x.like(0, 0), b.x.like(0, 1), b.x.like(0, 2), b.x.like(0, 3)), "-1 0 2 4 -1");
    b.is("of 4", row(b.x.like(4, 0), b.x.like(4, 1), b.x.like(4, 2), b.x.like(4, 3), b.x.piece(4, 5)), "0 2 4 -1 3");
    b.is("of 1, itself alone", row(b.x.like(1, 0), b.x.like(1, 1), b.x.piece(1, 5)), "1 -1 1");
    b.is("far", row(b.x.like(0, LEAST), b.x.like(0, MOST)), "-1 -1");
    b.tell(1, "x");
    b.tell(0, "xx");
    b.is("NOW does not count", row(b.x.piece(0, 5), b.x.piece(1, 5), b.x.like(0, 0)), "3 1 0");
    Bench c = of("40 of them", 1, -1, many("x,", 41));
    c.is("of 39", row(c.x.like(39, 0), c.x.like(39, 39), c.x.like(39, 40), c.x.piece(39, 5)), "0 39 -1 40");
    Bench d = of("escaped otherwise", 2, -1, "&amp;<p>&<p>&amp;amp;");
    d.is("LIKE", row(d.x.piece(0, 5), d.x.piece(2, 5), d.x.like(1, 0)), "2 1 0");
  }

  // Promise 25: "IllegalArgumentException: more than 60 bytes"
  private static void wouldOfMost() {
    Bench b = new Bench("would").file(TWO);
    String before = b.all();
    for (int bytes : new int[] {0, 1, 59, 60}) {
      b.is("of " + bytes, b.tape(many("z", bytes)).x.would(1), bytes).tapeHas("it", 0);
      b.is("escaped", b.tape(many("\n", bytes)).x.would(1), 2 * bytes);
    }
    for (int bytes : new int[] {61, 62, 400}) {
      b.throwing("of " + bytes, ARGUMENT, () -> b.tape(many("z", bytes)).x.would(1)).tapeHas("it", 0);
      b.throwing("no such PIECE first", INDEX, () -> b.tape(many("z", bytes)).x.would(2)).tapeHas("it", 0);
    }
    b.throwing("no such PIECE", INDEX, () -> b.tape("z").x.would(2)).tapeHas("it", 0);
    b.is("nothing is told", b.all(), before).is("remembered", b.x.count(14), 0).is("why", b.x.why(), 0);
    Bench c = of("BUILT of 600 does not count", 2, 2, "x<p>" + many("y", 396));
    c.is("of 540", c.tape(many("&", 60)).x.would(0), 540).throwing("tell", STATE, () -> c.tell(0, many("&", 60))).is("why", c.x.why(), 3);
    Bench d = new Bench("the first BLANK").file(TWO);
    d.is("one", d.tape(" ").x.would(0), 2).is("two", d.tape("  ").x.would(0), 3).is("behind", d.tape("x ").x.would(0), 2);
  }

  // Promise 25: "NONE, if it cannot be"
  private static void wouldNotBe() {
    Bench b = of("would, and cannot be", 1, 2, "x,\"y\"");
    b.is("in a bare CELL", row(b.tape(",").x.would(0), b.tape("\"").x.would(0), b.tape("\n").x.would(0), b.tape("z").x.would(0)), "-1 -1 -1 1");
    b.is("in a quoted one", row(b.tape(",").x.would(1), b.tape("\"").x.would(1), b.tape("\n").x.would(1), b.tape("<").x.would(1)), "1 2 1 4");
    b.is("why stays", b.x.why(), 0);
    b.throwing("61 is wrong first", ARGUMENT, () -> b.tape(many(",", 61)).x.would(0)).is("60 cannot be", b.tape(many(",", 60)).x.would(0), -1);
    Bench c = of("without an INNER KIND", 1, -1, "x,\"y\"");
    c.is("in a bare CELL", row(c.tape(",").x.would(0), c.tape("\"").x.would(0), c.tape("\n").x.would(0), c.tape("").x.would(0)), "3 4 3 0");
    c.is("60 of \"", row(c.tape(many("\"", 60)).x.would(0), c.tape(many("\"", 60)).x.would(1)), "122 120");
  }

  // Promise 26: "IllegalArgumentException: it is no word of 1 to 8 letters a to z"
  private static void foundWords() {
    Bench b = new Bench("found").file("a=abcdefgh\nb=abcdefg\nc=z");
    b.is("1", b.tape("z").x.found(), 4).is("7", b.tape("abcdefg").x.found(), 3).is("8", b.tape("abcdefgh").x.found(), 1).tapeHas("it", 0);
    for (String wrong : new String[] {"", "abcdefghi", many("a", 400), " a", "a ", "a b", "A", "aZ", "`", "{", "@", "[", "1", "\0", "a\0", "\u00e9"}) {
      b.throwing("<" + wrong + ">", ARGUMENT, () -> b.tape(wrong).x.found()).tapeHas("it", 0);
    }
  }

  // "FOUND: PIECES whose NOW has a word (letters A to Z count as small ones)."
  private static void foundLetters() {
    Bench b = new Bench("letters of FOUND").file("a=AZ\nb=az\nc=aZ\nd=a z\ne=@z\nf=a[\ng=xAzx");
    b.is("az", b.tape("az").x.found(), 0b1000111).is("a", b.tape("a").x.found(), 0b1101111).is("z", b.tape("z").x.found(), 0b1011111);
    b.tell(0, "");
    b.tell(3, "AZ");
    b.is("in NOW", b.tape("az").x.found(), 0b1001110);
    b.tell(3, "\u00e1z");
    b.is("a byte that is no letter", b.tape("az").x.found(), 0b1000110);
    b.file("a=`\nb={\nc=@\nd=[").is("no letters", row((int) b.tape("a").x.found(), (int) b.tape("z").x.found()), "0 0");
  }

  // Promise 26: "FOUND, as bits"
  private static void foundBits() {
    Bench b = of("bits", 1, -1, many("x,", 31) + "y,y,y," + many("x,", 5) + "y,y");
    b.is("PIECES", b.x.count(3), 40).is("y", b.tape("y").x.found(), 7L << 31 | 1L << 39).is("x", b.tape("x").x.found(), (1L << 40) - 1 - (7L << 31 | 1L << 39));
    b.is("none", b.tape("z").x.found(), 0);
  }

  // "KEPT of a PIECE: whether BUILT, cut by the same KINDS and RULES, has a PIECE that begins where it does in BUILT ..., with its NOW as TEXT"
  private static void keptOnes() {
    Bench b = of("KEPT", 2, -1, "x<p>y");
    b.is("as it is", b.x.kept(0) + " " + b.x.kept(1), "true true");
    String[] told = {"", " ", "\n", "z", " z", "z ", "z\n", "z z", "<p>", "&lt;", "\t", "\t "};
    boolean[] due = {false, false, false, true, false, false, false, true, true, true, true, false};
    for (int i = 0; i < told.length; i++) {
      b.tell(0, told[i]);
      b.is("<" + told[i] + ">", b.x.kept(0) + " " + b.x.kept(1) + " " + b.x.twice(), due[i] + " true " + due[i]);
    }
    Bench c = of("a PIECE that begins there, but is another one", 1, -1, "x,\"y\"");
    c.tell(0, "");
    c.is("none begins at 0", c.x.kept(0) + " " + c.x.kept(1), "false true");
  }

  // "(or just behind a " that was put around it)"
  private static void keptBehindQuotes() {
    int[] kinds = {1, 0, 2, 3, 1};
    int[] inners = {-1, 1, 1, 1, 1};
    String[] files = {"x,y", "k=x,y", "<p>x,y", "\"x,y\"", "\"x,y\""};
    String[] built = {"\"p,q\",y", "k=\"p,q\",y", "<p>\"p,q\",y", "\"\\\"p,q\\\",y\"", "\"\"\"p,q\"\",y\""};
    for (int i = 0; i < kinds.length; i++) {
      Bench b = of("a \" put around by " + kinds[i] + ", " + inners[i], kinds[i], inners[i], files[i]);
      b.tell(0, "p,q");
      b.is("BUILT", b.built(), built[i]).is("kept", b.x.kept(0) + " " + b.x.kept(1) + " " + b.x.twice(), "true true true");
      b.tell(0, "pq");
      b.is("without", b.x.kept(0) + " " + b.x.kept(1), "true true");
    }
  }

  private static void keptByRules() {
    Bench b = new Bench("KEPT by RULES").file("a=xx\nb=yy");
    b.x.rule(1, 2);
    b.tell(0, "z");
    b.is("LEAST", b.x.kept(0) + " " + b.x.kept(1) + " " + b.x.twice(), "false true false");
    b.tell(0, "zz");
    b.is("just as many", b.x.kept(0) + " " + b.x.twice(), "true true");
    b.x.rule(0, 1);
    b.tell(0, "12");
    b.is("LETTERS", b.x.kept(0) + " " + b.x.kept(1) + " " + b.x.twice(), "false true false");
    b.tell(0, "1a");
    b.is("with one", b.x.kept(0) + " " + b.x.twice(), "true true");
  }

  // "TWICE: whether BUILT, cut by the same KINDS and RULES, has as many PIECES, their TEXTS being just the NOWS."
  private static void twice() {
    Bench b = of("TWICE", 2, -1, "x<p>y");
    b.is("as it is", b.x.twice(), true);
    b.tell(0, "");
    b.is("one fewer", b.x.twice(), false);
    b.tell(0, "z ");
    b.is("as many, another TEXT", b.x.twice(), false);
    b.tell(0, "z");
    b.is("just these", b.x.twice(), true);
    b.tell(1, "\n");
    b.is("the last one goes", b.x.twice(), false);
    Bench c = of("one more", 0, 3, "a=\"x\" b");
    c.tell(0, "\" \"y");
    c.is("escaped", c.built() + c.x.twice(), "a=\"\\\\\" \\\\\"y\" btrue");
    Bench d = of("all of 60", 1, 1, "\"x,y\"");
    d.is("tell", d.tell(0, many("\"", 60)), 248).is("twice", d.x.twice(), true);
    Bench e = of("a BUILT of 600", 1, -1, many("y", 398) + ",x");
    e.is("tell", e.tell(1, many("\"", 60)), 521).is("twice", e.x.twice(), true);
  }

  private static void twiceOfForty() {
    Bench b = of("one of 41 goes", 1, -1, many("x,", 40) + "y");
    b.is("as it is", b.x.count(3) + " " + b.x.twice(), "40 true");
    b.tell(39, "");
    b.is("the 41st comes in its place", b.x.twice() + " " + b.x.kept(39) + " " + b.x.kept(38), "false false true");
    b.tell(39, "z");
    b.is("twice", b.x.twice() + " " + b.x.kept(39), "true true");
    b.tell(0, "");
    b.is("each one but the first", b.x.twice() + " " + b.x.kept(0) + " " + b.x.kept(1) + " " + b.x.kept(39), "false false true true");
  }

  private static void twiceAnew() {
    Bench b = of("TWICE anew", 2, -1, "x<p>y");
    b.tell(0, " z");
    b.is("told", b.x.twice() + " " + b.x.kept(0) + " " + b.x.kept(1), "false false true");
    b.file("a<p>bc<q>d").is("another FILE", b.x.twice() + " " + b.x.kept(0) + " " + b.x.kept(1) + " " + b.x.kept(2), "true true true true");
    b.x.kind(1, false);
    b.is("another KIND", b.x.twice() + " " + b.x.kept(0), "true true");
    b.tell(0, "");
    b.is("told", b.x.twice() + " " + b.x.kept(0), "false false").is("undo", b.x.undo() + " " + b.x.twice() + " " + b.x.kept(0), "1 true true");
    b.tell(0, "");
    b.is("told", b.x.twice(), false).is("a text", b.acts("free 0") + " " + b.x.twice(), "1 true");
    b.x.image();
    b.tell(0, "");
    b.is("told", b.x.twice(), false).is("back", b.x.back() + " " + b.x.twice() + " " + b.x.kept(0), "true true true");
  }

  // Promise 31: "false, and nothing happens, if none was kept"
  private static void imageOfNone() {
    Bench b = new Bench("no image").file(TWO);
    b.tell(0, "z");
    String before = b.all();
    b.is("back", b.x.back(), false).is("state", b.all(), before).is("remembered", b.x.count(14), 1);
    Bench c = new Bench("an image of a new object");
    c.x.image();
    c.kinds(2, 3).file(TWO).x.rule(0, 1);
    c.tape("a").x.lock();
    c.is("back", c.x.back(), true).is("state", c.all(), new Bench("").all());
    c.is("back again", c.x.back(), true).is("state", c.all(), new Bench("").all());
  }

  // "THE IMAGE (one) of all may be kept, and gone back to"
  private static void imageOfAll() {
    Bench b = new Bench("an image").kinds(0, 1).file("a=x,y\nb=zz");
    b.tape("q").x.lock();
    b.x.rule(0, 1);
    b.x.rule(1, 1);
    b.tell(0, "p");
    b.tell(1, ",r");
    b.x.image();
    String before = b.all();
    b.acts("unlock;any;least 7;kind 3;plain");
    b.file("other");
    b.is("back", b.x.back(), true).is("state", b.all(), before);
    b.tell(2, "more");
    b.x.free(0);
    b.is("back again", b.x.back(), true).is("state", b.all(), before);
    b.file("new=n");
    b.x.image();
    b.file("newer=2");
    b.is("one alone", b.x.back() + b.fileText(), "truenew=n");
    b.tell(0, "told");
    b.x.image();
    b.x.free(0);
    b.is("the latest", b.x.back() + b.now(0), "truetold");
  }

  // "(but for the TAPE, fault(), WHY and THE IMAGE itself)"
  private static void imageLeaves() {
    Bench b = new Bench("what going back leaves").file(TWO);
    b.throwing("wrong", ARGUMENT, () -> b.acts("any;any;x")).throwing("free", STATE, () -> b.x.free(0)).tape("tape");
    b.x.image();
    b.throwing("wrong", ARGUMENT, () -> b.acts("any;x")).throwing("free", STATE, () -> b.x.swap(0, 0));
    b.tape("it").is("back", b.x.back(), true).is("fault", b.x.fault(), 4).is("why", b.x.why(), 5).tapeHas("it", 2);
    b.is("bytes of it", b.x.file() + b.fileText(), "0it").is("back once more", b.x.back() + b.fileText(), "true" + TWO).tapeHas("that", 0);
  }

  // Promise 32
  private static void counts() {
    Bench b = new Bench("counts").file("a=xx y\n\nb=1");
    b.is("0 to 14", counted(b), "11 0 -1 2 0 11 6 0 1 0 2 2 0 4 0");
    b.tape("q").x.lock();
    b.x.rule(1, 2);
    b.x.rule(0, 1);
    b.x.kind(1, true);
    b.is("behind RULES", counted(b), "11 0 1 1 0 11 7 1 2 1 1 2 0 4 4");
    b.tell(0, "pq");
    b.is("TOLD", counted(b), "11 0 1 1 1 9 7 1 2 1 1 1 1 4 5");
    b.x.kind(3, false);
    b.is("no PIECES", counted(b), "11 3 1 0 0 11 11 1 2 1 0 0 1 0 6");
    Bench c = new Bench("the longest TEXT").file("a=" + many("x", 398));
    c.is("398", row(c.x.count(13), c.x.count(6)), "398 2");
    c.tell(0, "");
    c.is("not NOW", row(c.x.count(13), c.x.count(6), c.x.count(5)), "398 2 2");
    c.file("a=\\n\\n\\n\nb=xx").is("not what it lies in", c.x.count(13), 3);
  }

  private static String counted(Bench b) {
    int[] all = new int[15];
    for (int i = 0; i < all.length; i++) {
      all[i] = b.x.count(i);
    }
    return row(all);
  }

  private static void countOfUnlike() {
    Bench b = of("unlike TEXTS", 1, -1, "x,y,x,xx,y,X");
    b.is("4", b.x.count(10), 4);
    b.tell(0, "y");
    b.is("NOW does not count", b.x.count(10), 4).is("one", of("", 1, -1, many("x,", 41)).x.count(10), 1);
    b.is("none", new Bench("").x.count(10), 0);
  }

  // "Of several exceptions the one told first is thrown"
  private static void firstExceptionOfSeveral() {
    Bench b = new Bench("several exceptions").file(TWO);
    b.throwing("rule: what, then n", ELEMENT, () -> b.x.rule(2, 2)).throwing("rule", ELEMENT, () -> b.x.rule(-1, 0));
    b.throwing("tell: bytes, then PIECE", ARGUMENT, () -> b.tell(2, many("z", 61))).is("why", b.x.why(), 0);
    b.throwing("piece: PIECE, then what", INDEX, () -> b.x.piece(2, 10)).throwing("key", INDEX, () -> b.x.key(-1, 2));
    b.throwing("would: PIECE, then bytes", INDEX, () -> b.tape(many("z", 61)).x.would(2));
    for (String word : new String[] {"a", "b", "c", "d"}) {
      b.tape(word).x.lock();
    }
    b.throwing("lock: word, then refused", ARGUMENT, () -> b.tape("abcdefghi").x.lock()).is("why", b.x.why(), 0);
    b.throwing("lock", STATE, () -> b.tape("abcdefgh").x.lock()).is("why", b.x.why(), 6);
  }

  // "a call that throws changes nothing but the TAPE, where it is used up, fault(), where a text is read, and WHY, where an ACT is refused"
  private static void throwingChangesNothing() {
    Bench b = of("throwing", 0, 1, "a=x,y\nb=z,x\nc=" + many("w", 61)).tape("q");
    b.x.lock();
    b.tell(0, "p,");
    b.tell(2, "r");
    b.throwing("a text", ARGUMENT, () -> b.acts("any;x"));
    b.throwing("swap", STATE, () -> b.x.swap(1, 1));
    String before = b.all();
    int whyStays = 5;
    untouched(b, before, ARGUMENT, whyStays, () -> b.x.kind(4, false));
    untouched(b, before, ARGUMENT, whyStays, () -> b.x.kind(-2, true));
    untouched(b, before, ELEMENT, whyStays, () -> b.x.rule(2, 1));
    untouched(b, before, ARGUMENT, whyStays, () -> b.x.rule(0, 2));
    untouched(b, before, ARGUMENT, whyStays, () -> b.x.rule(1, 41));
    untouched(b, before, INDEX, whyStays, () -> b.x.piece(5, 0));
    untouched(b, before, ELEMENT, whyStays, () -> b.x.piece(0, 10));
    untouched(b, before, INDEX, whyStays, () -> b.x.octet(5, 0, true));
    untouched(b, before, INDEX, whyStays, () -> b.x.origin(5, 0));
    untouched(b, before, INDEX, whyStays, () -> b.x.key(5, 0));
    untouched(b, before, ELEMENT, whyStays, () -> b.x.key(0, 2));
    untouched(b, before, INDEX, whyStays, () -> b.x.like(5, 0));
    untouched(b, before, INDEX, whyStays, () -> b.x.kept(5) ? 1 : 0);
    untouched(b, before, STATE, 1, () -> b.x.free(5));
    untouched(b, before, STATE, 4, () -> b.x.free(1));
    untouched(b, before, STATE, 1, () -> b.x.spread(5));
    untouched(b, before, STATE, 4, () -> b.x.spread(1));
    untouched(b, before, STATE, 1, () -> b.x.swap(0, 5));
    untouched(b, before, STATE, 5, () -> b.x.swap(0, 0));
    untouched(b, before, STATE, 8, () -> b.x.swap(0, 4));
    b.is("remembered all along", b.x.count(14), 3);
    Bench c = new Bench("undo and wipe").file(TWO);
    String none = c.all();
    c.tape("left").throwing("undo", STATE, () -> c.x.undo()).tapeHas("undo", 4).throwing("wipe", STATE, () -> c.x.wipe()).tapeHas("wipe", 4);
    c.is("state", c.all(), none).is("why", c.x.why(), 4).is("fault", c.x.fault(), -1);
  }

  private static void untouched(Bench b, String before, Class<?> due, int why, LongSupplier call) {
    b.tape("left").throwing("a call", due, call).is("state", b.all(), before).is("why", b.x.why(), why).tapeHas("it", 4);
    b.is("fault", b.x.fault(), 4).is("remembered", b.x.count(14), 3);
  }

  private static void refusedCallsUseTheTapeUp() {
    Bench b = new Bench("the TAPE is used up").file(TWO);
    b.tape("q").x.lock();
    String before = b.all();
    b.throwing("acts", ARGUMENT, () -> b.acts("any;x")).tapeHas("acts", 0);
    b.throwing("acts", ARGUMENT, () -> b.acts("x" + many(" ", 399))).tapeHas("acts", 0);
    b.throwing("lock, no word", ARGUMENT, () -> b.tape("Q").x.lock()).tapeHas("lock", 0);
    b.throwing("lock, refused", STATE, () -> b.tape("q").x.lock()).tapeHas("lock", 0);
    b.throwing("tell, 61", ARGUMENT, () -> b.tell(0, many("x", 61))).tapeHas("tell", 0);
    b.throwing("tell, refused", STATE, () -> b.tell(2, "x")).tapeHas("tell", 0);
    b.throwing("would, no such PIECE", INDEX, () -> b.tape("x").x.would(2)).tapeHas("would", 0);
    b.throwing("would, 61", ARGUMENT, () -> b.tape(many("x", 61)).x.would(0)).tapeHas("would", 0);
    b.throwing("found", ARGUMENT, () -> b.tape("X").x.found()).tapeHas("found", 0);
    b.is("state", b.all(), before).is("remembered", b.x.count(14), 1);
    b.is("an empty one", b.tell(0, "") + " " + b.x.would(0) + " " + b.x.acts(), "6 0 0");
    b.throwing("an empty word", ARGUMENT, () -> b.x.lock()).throwing("an empty word", ARGUMENT, () -> b.x.found());
  }

  /** Calls that only ask leave the TAPE and all else. */
  private static void asking() {
    Bench b = new Bench("asking").file(TWO);
    b.tell(0, "p");
    String before = b.all();
    b.tape("left");
    b.x.image();
    b.is("state", b.all(), before).is("twice", b.x.twice(), true).is("kept", b.x.kept(0), true).tapeHas("asking", 4);
    b.is("fault and why", row(b.x.fault(), b.x.why(), b.x.count(14)), "-1 0 1").is("back", b.x.back(), true).tapeHas("back", 4);
    b.tell(1, "q");
    b.tape("left").is("undo", b.x.undo(), 0).tapeHas("undo", 4);
    b.tell(1, "q");
    b.tape("left").is("acts that use no TAPE", row(b.x.free(1), b.x.swap(0, 1), b.x.spread(0), b.x.wipe(), b.x.unlock(), b.x.rule(0, 0)), "7 7 0 2 2 2");
    b.tapeHas("them", 4).is("kind", b.x.kind(0, false), 2).tapeHas("kind", 4);
  }
}
