import java.util.NoSuchElementException;

/** Each promise of the document: ordinary inputs, the edges that it names, wrong inputs. */
public final class PromisesTest {
  private static final Class<?> ARGUMENT = IllegalArgumentException.class;
  private static final Class<?> STATE = IllegalStateException.class;
  private static final Class<?> INDEX = IndexOutOfBoundsException.class;
  private static final Class<?> ELEMENT = NoSuchElementException.class;

  public static void main(String[] args) {
    newObject();
    feedAndEnd();
    lines();
    table();
    markup();
    quotes();
    innerKinds();
    rules();
    actsTexts();
    actsWrong();
    why();
    file();
    kindAndRule();
    lockAndUnlock();
    tell();
    tellEscapes();
    tellWithin();
    limits();
    free();
    spread();
    swap();
    wipe();
    undo();
    piece();
    octetAndOrigin();
    key();
    holderAndAt();
    like();
    would();
    found();
    memory();
    kept();
    twice();
    imageAndBack();
    count();
    System.out.println(Bench.allChecks() + " checks, " + Bench.wrongOnes() + " wrong");
    System.exit(Bench.wrongOnes() == 0 ? 0 : 1);
  }

  private static String many(String text, int times) {
    return text.repeat(times);
  }

  // Promise 1
  private static void newObject() {
    Bench b = new Bench("1 a new object");
    int[] due = {0, 0, -1, 0, 0, 0, 0, 0, 1, 0, 0, 0, 0, 0, 0};
    for (int i = 0; i < due.length; i++) {
      b.is("count(" + i + ")", b.x.count(i), due[i]);
    }
    b.is("fault", b.x.fault(), -1).is("why", b.x.why(), 0).is("back", b.x.back(), false).is("twice", b.x.twice(), true);
    b.is("end(1)", b.x.end(1), false).is("file of nothing", b.x.file(), 0);
  }

  // Promises 2 and 3
  private static void feedAndEnd() {
    Bench b = new Bench("2, 3 feed and end");
    b.is("feed", b.x.feed(0x0102f304, -1, 0, 0x7f000080, 5), 20);
    b.is("end(-1)", b.x.end(-1), false).is("end(21)", b.x.end(21), false).is("end(20)", b.x.end(20), true);
    b.is("end least", b.x.end(Integer.MIN_VALUE), false).is("end most", b.x.end(Integer.MAX_VALUE), false);
    b.x.file();
    b.is("bytes", (int) b.fileText().charAt(2), 243).is("byte 4", b.x.at(4, false), 255).is("byte 15", b.x.at(15, false), 128);
    b.is("byte 19", b.x.at(19, false), 5).is("file size", b.x.count(0), 20);
    b.is("the tape is used up", b.x.end(1), false);
    for (int i = 1; i <= 20; i++) {
      b.is("feed", b.x.feed(1, 2, 3, 4, 5), 20 * i);
    }
    b.is("feed beyond", b.x.feed(9, 9, 9, 9, 9), -1).is("end(400)", b.x.end(400), true);
    b.is("end(381)", b.x.end(381), true).is("feed to 401", b.x.feed(9, 9, 9, 9, 9), -1).is("end(382)", b.x.end(382), false);
    b.is("end(380)", b.x.end(380), true).is("feed to 400", b.x.feed(9, 9, 9, 9, 9), 400);
    b.is("end(0)", b.x.end(0), true).is("feed anew", b.x.feed(9, 9, 9, 9, 9), 20);
  }

  private static void lines() {
    Bench b = new Bench("kind 0");
    b.file("a=1\n  # b=2\nno\n c d  =  x y \n=\ne= \nf==\\n\\t\\\\\\ \\q\\");
    b.is("texts", b.texts(), "|1|x y |=\n\t\\ \\q\\").is("places", b.places(), "2-3 24-28 37-49");
    b.file("a=b\\").is("a last BACK", b.texts(), "|b\\").file("a=b\\\nc=d").is("BACK at a line's end", b.texts(), "|b\\|d");
    b.file("   ").is("blanks", b.texts(), "").file("a=\\ x").is("escaped blank", b.texts(), "| x");
    b.file("a#=1\n#").is("# behind the first", b.texts(), "|1").file("\n\n\na=b\n").is("empty lines", b.places(), "5-6");
    b.file("= # v").is("# in a value", b.texts(), "|# v").file("a=\tx").is("a tab is no blank", b.texts(), "|\tx");
  }

  private static void table() {
    Bench b = new Bench("kind 1").kinds(1, -1);
    b.file("a,b c\n,\"d\"\"e\",\"\",\"f,\ng\"h\"i,j\"k,\"l");
    b.is("texts", b.texts(), "|a|b c|d\"e|f,\ng|j\"k|l").is("places", b.places(), "0-1 2-5 8-12 18-22 27-30 32-33");
    b.file("\"a\"\"").is("two at the end", b.texts(), "|a\"").file("\"a\"\"\"").is("three at the end", b.texts(), "|a\"");
    b.file("\"").is("an open one", b.texts(), "").file(" \"a\"").is("a blank ahead", b.texts(), "| \"a\"");
    b.file("\"\"\"\"").is("one within", b.texts(), "|\"").file("\"\"a,b").is("behind none", b.texts(), "|b");
    b.file("\"a\" , \"b\"\nc").is("blank behind", b.texts(), "|a| \"b\"|c");
  }

  private static void markup() {
    Bench b = new Bench("kind 2").kinds(2, -1);
    b.file(" \n a > b <x y=\"z>\"> &lt;&gt;&amp;&amp&lt &amp;lt;\n\n<");
    b.is("texts", b.texts(), "|a > b|\"> <>&&amp&lt &lt;").is("places", b.places(), "3-8 17-49");
    b.file("<p>  \n <b>x</b").is("an open tag", b.texts(), "|x").file("<<a>b>").is("< within a tag", b.texts(), "|b>");
    b.file("&l<t>;t&amp;<&gt;>").is("cut escapes", b.texts(), "|&l|;t&").file("a\tb\t").is("tabs stay", b.texts(), "|a\tb\t");
    b.file("<>").is("nothing", b.texts(), "").file("a").is("one", b.places(), "0-1");
  }

  private static void quotes() {
    Bench b = new Bench("kind 3").kinds(3, -1);
    b.file("x \"a\\\"b\" y \"k\" \n : \"v\\n\\t\\\\\\q\\ \" \"\" \"open\\\"");
    b.is("texts", b.texts(), "|a\"b|v\n\t\\\\q\\ |open\"").is("places", b.places(), "3-7 20-31 37-43");
    b.file("\"a\\").is("a last BACK", b.texts(), "|a\\").file("\"a\"\"b\"").is("side by side", b.texts(), "|a|b");
    b.file("\"a\"\t:").is("a tab is not left aside", b.texts(), "|a").file("\"a\":\"b\":c\"d").is("keys", b.texts(), "|d");
    b.file("\"a\" \"b\"").is("a quote behind", b.texts(), "|a|b").file("\"\\\\\"x\"").is("an escaped BACK", b.texts(), "|\\");
    b.file("\\\"a\"").is("a BACK outside", b.texts(), "|a").file("\"a\" \n \n").is("nothing behind", b.texts(), "|a");
  }

  private static void innerKinds() {
    Bench b = new Bench("inner kinds").kinds(0, 1);
    b.file("k = a,\"b\\n\\\\c\",d\nm=\\ \\\\,z");
    b.is("table in lines", b.texts(), "|a|b\n\\c|d| \\|z").is("places", b.places(), "4-5 7-13 15-16 19-23 24-25");
    b.is("origin of the 10", b.x.origin(1, 1), 8).is("origin of the BACK", b.x.origin(1, 2), 10).is("of c", b.x.origin(1, 3), 12);
    b.kinds(1, 3).file("\"{\"\"k\"\":\"\"v\\\"\"w\"\"}\",\"\"\"x\"\"\"");
    b.is("quotes in a table", b.texts(), "|v\"w|x").is("places", b.places(), "10-15 23-24");
    b.kinds(2, 0).file("<p>a=1\nb = &lt;\\n</p>#c=2<i>=&amp;amp;");
    b.is("lines in markup", b.texts(), "|1|<\n|&amp;").is("places", b.places(), "5-6 11-17 29-38");
    b.kinds(3, 2).file("\"<b>x\\n</b>\\ny &amp;\\\" \": \"<i>\\tz\\n\"");
    b.is("markup in quotes", b.texts(), "|\tz").is("places", b.places(), "30-33");
    b.kinds(0, 0).file("a=b=c\\nd = e\\\\nf\\n#g=h");
    b.is("lines in lines", b.texts(), "|c|e\nf").is("places", b.places(), "4-5 11-16");
    b.is("key of the outer line", b.x.key(1, 0) + " " + b.x.key(1, 1), "0 1");
  }

  private static void rules() {
    Bench b = new Bench("rules").file("a=1\nb=xy\nc=Z1\nd=\\n");
    b.x.rule(0, 1);
    b.is("letters", b.texts(), "|xy|Z1").is("a meaning has no letter", b.x.count(3), 2);
    b.x.rule(0, 0);
    b.x.rule(1, 2);
    b.is("least counts the text", b.texts(), "|xy|Z1");
    b.x.rule(1, 3);
    b.is("least 3", b.texts(), "");
    b.x.rule(1, 1);
    b.file(many("k=v\n", 41)).is("the first 40", b.x.count(3), 40).is("the 41st lies in none", b.x.holder(162), -1);
    b.is("the 40th", b.x.piece(39, 0), 158).is("bytes in none", b.x.count(6), 124);
    b.x.kind(1, true);
    b.file(many("k=v,w,x\n", 14)).is("the first 40 of inner ones", b.x.count(3), 40);
    b.kinds(1, -1).file(many("1,", 50) + "a").x.rule(0, 1);
    b.is("40 are counted behind the rules", b.texts(), "|a");
  }

  // Promises 4 and 5
  private static void actsTexts() {
    Bench b = new Bench("4, 5 acts").file("a=x\nab=x\nc=y,z");
    b.is("none", b.acts(""), 0).is("fault", b.x.fault(), -1).is("blanks", b.acts("   "), 0);
    b.is("kind", b.acts("kind1"), 1).is("KIND", b.x.count(1), 1).is("01", b.acts("  kind  00 ;  inner 01 "), 2);
    b.is("INNER", b.x.count(2), 1).is("PIECES", b.texts(), "|x|x|y|z").is("plain", b.acts("plain"), 1).is("INNER", b.x.count(2), -1);
    b.is("letters", b.acts("letters;least 40"), 2).is("LETTERS", b.x.count(7), 1).is("LEAST", b.x.count(8), 40);
    b.is("any", b.acts("any;least1"), 2).is("LETTERS", b.x.count(7), 0).is("LEAST", b.x.count(8), 1);
    b.is("lock", b.acts("lock a"), 1).is("LOCKS", b.texts(), "|y,z").is("unlock", b.acts("unlock;lock ab;lock abcdefgh"), 3);
    b.is("LOCKS", b.texts(), "|x|y,z").is("count", b.x.count(9), 2).is("unlock", b.acts("unlock"), 1);
    b.tell(0, "t");
    b.is("spread", b.acts("spread 0;swap 1 2;free 0"), 3).is("NOW", b.now(0) + b.now(1) + b.now(2), "xy,zt");
    b.is("wipe", b.acts("wipe"), 1).is("TOLD", b.x.count(4), 0);
    b.is("14", b.acts(many("any;", 13) + "any"), 14).is("the tape is used up", b.x.end(1), false);
    b.is("cut as it was", b.tell(0, "q"), 14).is("acts", b.acts("plain"), 1).is("nothing told", b.x.count(4), 0);
    b.file(many("k=v\n", 40));
    b.tell(39, "q");
    b.is("the last piece", b.acts("swap 39 00;swap 0 39;spread 39;free 39"), 4).is("told", b.x.count(4), 39);
    b.file("a=x\nab=x\nc=y,z");
    b.is("a lock with a z", b.acts("lock az;lock z"), 2).is("unlock", b.acts("unlock"), 1);
    b.is("acts see what acts ahead did", b.acts("swap 0 1;free 0;kind 1;kind 0"), 4);
  }

  /** The text is wrong at this place, and nothing of it stays. */
  private static void wrongAt(Bench b, String text, int place) {
    String before = b.all();
    int remembered = b.x.count(14);
    b.throwing("acts " + text, ARGUMENT, () -> b.acts(text)).is("fault of " + text, b.x.fault(), place);
    b.is("state behind " + text, b.all(), before).is("the tape is used up", b.x.end(1), false);
    b.is("remembered behind " + text, b.x.count(14), remembered);
  }

  private static void actsWrong() {
    Bench b = new Bench("4, 5 wrong acts").file("a=x\nb=y");
    b.tell(1, "t");
    b.is("told", b.x.count(4), 1);
    wrongAt(b, "turn", 0);
    wrongAt(b, "  turn", 2);
    wrongAt(b, "Kind 1", 0);
    wrongAt(b, "kindx 1", 0);
    wrongAt(b, "xind 1", 0);
    wrongAt(b, "kinz 1", 0);
    wrongAt(b, "kind {", 5);
    wrongAt(b, "kind 1{", 6);
    wrongAt(b, "kind /", 5);
    wrongAt(b, "kind :", 5);
    wrongAt(b, "kind", 4);
    wrongAt(b, "kind  ", 6);
    wrongAt(b, "kind x", 5);
    wrongAt(b, "kind -1", 5);
    wrongAt(b, "kind 4", 5);
    wrongAt(b, "inner 04", 6);
    wrongAt(b, "kind 001", 5);
    wrongAt(b, "kind 1 2", 7);
    wrongAt(b, "kind 1,", 6);
    wrongAt(b, "least 0", 6);
    wrongAt(b, "least 41", 6);
    wrongAt(b, "lock", 4);
    wrongAt(b, "lock ;any", 5);
    wrongAt(b, "lock 1", 5);
    wrongAt(b, "lock abcdefghi", 5);
    wrongAt(b, "lock aB", 6);
    wrongAt(b, "locka", 0);
    wrongAt(b, "swap 0", 6);
    wrongAt(b, "swap 0 ", 7);
    wrongAt(b, "swap 0;", 6);
    wrongAt(b, "swap 0 40", 7);
    wrongAt(b, "swap 40 0", 5);
    wrongAt(b, "free 40", 5);
    wrongAt(b, "spread 100", 7);
    wrongAt(b, "plain;", 6);
    wrongAt(b, "plain ; ", 8);
    wrongAt(b, "plain;;any", 6);
    wrongAt(b, ";", 0);
    wrongAt(b, "plain any", 6);
    wrongAt(b, "kind 1;kind 2;lock a;letters;least 3;swap 0 0", 37);
    wrongAt(b, "any;any;any\0", 11);
    wrongAt(b, many("any;", 14) + "any", 56);
    wrongAt(b, many("any ; ", 14) + " kind 9", 85);
    wrongAt(b, many("any;", 14), 56);
    wrongAt(b, many("any;", 13) + "any any", 56);
    wrongAt(b, "free 0;turn", 0);
    b.is("an act that is refused comes ahead of what is behind it", b.x.why(), 4);
    wrongAt(b, "free 0 x", 0);
    wrongAt(b, "free 1;free 1", 7);
    wrongAt(b, "wipe; wipe", 6);
    wrongAt(b, "free 2", 0);
    b.is("no such piece", b.x.why(), 1);
    wrongAt(b, "lock a;lock b;lock c;lock d;lock e", 28);
    b.is("locks full", b.x.why(), 6);
    b.is("a right one", b.acts("any"), 1).is("fault", b.x.fault(), -1);
    b.file("a=x");
    b.throwing("acts", ARGUMENT, () -> b.acts("x")).is("fault", b.x.fault(), 0);
    b.file("a=y").is("fault stays with other calls", b.x.fault(), 0);
  }

  // Promise 6
  private static void why() {
    Bench b = new Bench("6 why").file("a=x\nb=y");
    b.throwing("free", STATE, () -> b.x.free(5)).is("why", b.x.why(), 1);
    b.is("an empty text leaves it", b.acts(" ") + " " + b.x.why(), "0 1");
    b.throwing("a wrong text", ARGUMENT, () -> b.acts("any;x")).is("leaves it", b.x.why(), 1);
    b.throwing("an act too many", ARGUMENT, () -> b.acts(many("any;", 15))).is("leaves it", b.x.why(), 1);
    b.throwing("kind", ARGUMENT, () -> b.x.kind(9, false)).is("leaves it", b.x.why(), 1);
    b.throwing("rule", ELEMENT, () -> b.x.rule(9, 0)).is("leaves it", b.x.why(), 1);
    b.throwing("lock", ARGUMENT, () -> b.tape("A").x.lock()).is("leaves it", b.x.why(), 1);
    b.throwing("tell", ARGUMENT, () -> b.tell(9, many("x", 61))).is("leaves it", b.x.why(), 1);
    b.throwing("undo", STATE, () -> b.x.undo()).is("leaves it", b.x.why(), 1);
    b.file("a=x\nb=y").is("a file leaves it", b.x.why(), 1);
    b.is("an act by a call", b.x.unlock() + " " + b.x.why(), "2 0");
    b.throwing("wipe", STATE, () -> b.x.wipe()).is("why", b.x.why(), 4);
    b.is("a right text", b.acts("any") + " " + b.x.why(), "1 0");
    b.throwing("swap", STATE, () -> b.x.swap(1, 1)).is("why", b.x.why(), 5);
    b.x.image();
    b.is("back leaves it", b.x.back() + " " + b.x.why(), "true 5");
    b.x.kind(0, false);
    b.throwing("free", STATE, () -> b.x.free(0)).is("why", b.x.why(), 4).is("undo leaves it", b.x.undo() + " " + b.x.why(), "0 4");
  }

  // Promise 7
  private static void file() {
    Bench b = new Bench("7 file");
    b.is("file", b.tape("a=1\nb=2").x.file(), 2).is("bytes", b.fileText(), "a=1\nb=2").is("the tape is used up", b.x.end(1), false);
    b.tell(0, "z");
    b.is("remembered", b.x.count(14), 1).is("file", b.tape("a=1\nb=2").x.file(), 2).is("nothing told", b.x.count(4), 0);
    b.is("nothing remembered", b.x.count(14), 0).is("memory stays", b.x.count(12), 1).is("an empty file", b.x.file(), 0);
    b.is("bytes", b.x.count(0), 0).is("400 bytes", b.tape("a=" + many("x", 398)).x.file(), 1).is("text", b.x.piece(0, 2), 398);
  }

  // Promises 8 and 9
  private static void kindAndRule() {
    Bench b = new Bench("8, 9 kind and rule").file("a=\"x,\"\n<b>c");
    b.is("kinds", b.x.kind(0, false) + " " + b.x.kind(1, false) + " " + b.x.kind(2, false) + " " + b.x.kind(3, false), "1 2 2 1");
    b.is("KIND", b.x.count(1), 3).is("inner", b.x.kind(1, true), 1).is("INNER", b.x.count(2), 1).is("none", b.x.kind(-1, true), 1);
    for (int wrong : new int[] {-2, 4, Integer.MIN_VALUE, Integer.MAX_VALUE}) {
      b.throwing("kind " + wrong, ARGUMENT, () -> b.x.kind(wrong, false));
      b.throwing("inner " + wrong, ARGUMENT, () -> b.x.kind(wrong, true));
    }
    b.throwing("kind none", ARGUMENT, () -> b.x.kind(-1, false)).is("KIND stays", b.x.count(1), 3);
    b.is("letters", b.x.rule(0, 1), 1).is("LETTERS", b.x.count(7), 1).is("least", b.x.rule(1, 3), 0).is("LEAST", b.x.count(8), 3);
    b.is("least 40", b.x.rule(1, 40), 0).is("any", b.x.rule(0, 0), 0).is("least 1", b.x.rule(1, 1), 1);
    b.throwing("rule -1", ELEMENT, () -> b.x.rule(-1, 9)).throwing("rule 2", ELEMENT, () -> b.x.rule(2, 1));
    b.throwing("letters 2", ARGUMENT, () -> b.x.rule(0, 2)).throwing("letters -1", ARGUMENT, () -> b.x.rule(0, -1));
    b.throwing("least 0", ARGUMENT, () -> b.x.rule(1, 0)).throwing("least 41", ARGUMENT, () -> b.x.rule(1, 41));
    b.tell(0, "q");
    b.is("told", b.x.count(4), 1).is("as it was", b.x.rule(0, 0), 1).is("cut anew", b.x.count(4), 0);
    b.tell(0, "q");
    b.is("as it was", b.x.kind(-1, true), 1).is("cut anew", b.x.count(4), 0);
  }

  // Promises 10 and 11
  private static void lockAndUnlock() {
    Bench b = new Bench("10, 11 lock and unlock").file(" abc = 1\nabd=2\nab=3\nAb=4\n=5\nxabc=6");
    b.is("lock", b.tape("abc").x.lock(), 5).is("texts", b.texts(), "|2|3|4|5|6").is("lock", b.tape("ab").x.lock(), 3);
    b.tell(0, "z");
    b.throwing("twice", STATE, () -> b.tape("ab").x.lock()).is("why", b.x.why(), 7).is("nothing is cut", b.x.count(4), 1);
    b.throwing("the first twice", STATE, () -> b.tape("abc").x.lock()).is("why", b.x.why(), 7);
    b.is("third", b.tape("x").x.lock(), 2).is("fourth", b.tape("zzzzzzzz").x.lock(), 2).is("LOCKS", b.x.count(9), 4);
    b.throwing("fifth", STATE, () -> b.tape("y").x.lock()).is("why", b.x.why(), 6);
    b.throwing("full and there already", STATE, () -> b.tape("x").x.lock()).is("why", b.x.why(), 6);
    for (String wrong : new String[] {"", "A", "a b", " a", "a ", "a1", "abcdefghi", "\0"}) {
      b.throwing("lock <" + wrong + ">", ARGUMENT, () -> b.tape(wrong).x.lock()).is("the tape is used up", b.x.end(1), false);
    }
    b.is("with another kind they lock nothing", b.x.kind(1, false), 6).is("inner lines", b.x.kind(0, true), 6);
    b.kinds(0, 0).file("p=abc=1\\nq=2").is("not by the inner kind", b.texts(), "|1|2");
    b.is("unlock", b.x.unlock(), 2).is("LOCKS", b.x.count(9), 0);
    b.tell(0, "z");
    b.is("unlock cuts anew", b.x.unlock() + " " + b.x.count(4), "2 0");
    b.kinds(0, -1).file("a=1\nb=2\nc=3");
    b.tape("a").x.lock();
    b.x.unlock();
    b.tape("b").x.lock();
    b.is("b", b.texts(), "|1|3").is("undo", b.x.undo() + b.texts(), "2|1|2|3").is("undo", b.x.undo() + b.texts(), "1|2|3");
  }

  // Promise 12
  private static void tell() {
    Bench b = new Bench("12 tell").file("a=x\nb=y");
    b.is("tell", b.tell(1, "long"), 10).is("BUILT", b.built(), "a=x\nb=long").is("FILE", b.fileText(), "a=x\nb=y");
    b.is("tell anew", b.tell(1, "s"), 7).is("nothing", b.tell(1, ""), 6).is("BUILT", b.built(), "a=x\nb=");
    b.is("it is told", b.x.piece(1, 4), 1).is("NOW", b.x.piece(1, 3), 0).is("60", b.tell(0, many("z", 60)), 65);
    b.throwing("61 first", ARGUMENT, () -> b.tell(7, many("z", 61))).is("the tape is used up", b.x.end(1), false);
    b.throwing("no piece", STATE, () -> b.tell(2, "z")).is("why", b.x.why(), 1).is("the tape is used up", b.x.end(1), false);
    b.throwing("below 0", STATE, () -> b.tell(-1, "z")).is("NOW stays", b.now(1), "");
  }

  private static void tellEscapes() {
    Bench b = new Bench("12 escapes").file("a= x");
    b.tell(0, "  a\n\t\\ \"<&\u00ff");
    b.is("LINES", b.built(), "a= \\  a\\n\\t\\\\ \"<&\u00ff");
    b.kinds(1, -1).file("x,\"y\",z");
    b.tell(0, "a b");
    b.tell(1, "a\"b,\n\\");
    b.tell(2, "c\"d");
    b.is("TABLE", b.built(), "a b,\"a\"\"b,\n\\\",\"c\"\"d\"");
    b.tell(0, "\n");
    b.tell(2, ",");
    b.is("TABLE, 10 and ,", b.built(), "\"\n\",\"a\"\"b,\n\\\",\",\"");
    b.kinds(2, -1).file("<p> x </p>");
    b.tell(0, " <>&lt;\" ");
    b.is("MARKUP", b.built(), "<p>  &lt;&gt;&amp;lt;\"  </p>");
    b.kinds(3, -1).file("{\"x\"");
    b.tell(0, " \"\n\t\\,<");
    b.is("QUOTES", b.built(), "{\" \\\"\\n\\t\\\\,<\"");
  }

  private static void tellWithin() {
    Bench b = new Bench("12 escapes of inner kinds").kinds(0, 1).file("k=a,\"b\",c");
    b.tell(0, " p");
    b.tell(1, " \"\n");
    b.tell(2, " \\,");
    b.is("TABLE in LINES", b.built(), "k=\\ p,\" \"\"\\n\",\" \\\\,\"").is("twice", b.x.twice(), true);
    b.tell(0, " ,");
    b.is("a \" begins the VALUE then", b.built(), "k=\" ,\",\" \"\"\\n\",\" \\\\,\"");
    b.kinds(0, 0).file("k=m= v");
    b.tell(0, " \\");
    b.is("LINES in LINES", b.built(), "k=m= \\\\ \\\\\\\\").is("twice", b.x.twice(), true);
    b.kinds(1, 0).file("k=v,\"m=w\"");
    b.tell(0, " \n");
    b.is("LINES in a cell without quotes", b.built(), "k=\\ \\n,\"m=w\"");
    b.throwing("a , cannot be", STATE, () -> b.tell(0, "a,")).is("why", b.x.why(), 2);
    b.throwing("a \" cannot be", STATE, () -> b.tell(0, "\"")).is("why", b.x.why(), 2).is("NOW stays", b.now(0), " \n");
    b.tell(1, ",\"\n");
    b.is("LINES in a quoted cell", b.built(), "k=\\ \\n,\"m=,\"\"\\n\"");
    b.kinds(1, 1).file("a,\"b,\"\"c\"\"\"");
    b.is("TABLE in TABLE", b.texts(), "|a|b|c");
    b.throwing("a 10 cannot be", STATE, () -> b.tell(0, "\n")).is("why", b.x.why(), 2);
    b.tell(1, "p,q");
    b.tell(2, "\"");
    b.is("TABLE in a quoted cell", b.built(), "a,\"\"\"p,q\"\",\"\"\"\"\"\"\"\"\"").is("twice", b.x.twice(), true);
    b.kinds(3, 2).file("\"<p>x</p>\"");
    b.tell(0, "\"<\n&");
    b.is("MARKUP in QUOTES", b.built(), "\"<p>\\\"&lt;\\n&amp;</p>\"");
    b.kinds(2, 3).file("<p>\"x\"</p>");
    b.tell(0, "\"<\n");
    b.is("QUOTES in MARKUP", b.built(), "<p>\"\\\"&lt;\\n\"</p>");
    b.kinds(2, 2).file("<p>x</p>");
    b.is("MARKUP in MARKUP", b.tell(0, many("&", 60)), 547).is("BUILT", b.built().substring(0, 12), "<p>&amp;amp;");
    b.kinds(0, 2).file("k=x<b>y");
    b.tell(0, " a");
    b.tell(1, " b");
    b.is("MARKUP in LINES", b.built(), "k=\\ a<b> b");
  }

  private static void limits() {
    Bench b = new Bench("12 to 15 BUILT of 600 bytes").file("a=b\nc=x\nd=" + many("y", 380) + "\ne=b");
    b.is("bytes", b.x.count(0), 394).is("120 more", b.tell(0, many("\\", 60)), 513).is("to 600", b.tell(1, many("z", 55) + many("\\", 1)), 569);
    b.is("600", b.tell(1, many("z", 32) + many("\\", 28)), 600);
    String before = b.all();
    b.throwing("601", STATE, () -> b.tell(1, many("z", 31) + many("\\", 29))).is("why", b.x.why(), 3).is("state", b.all(), before);
    b.throwing("spread", STATE, () -> b.x.spread(0)).is("why", b.x.why(), 3).is("state", b.all(), before);
    b.throwing("a text", ARGUMENT, () -> b.acts("free 1;swap 0 1;free 0;free 0"));
    b.is("state", b.all(), before).is("fault", b.x.fault(), 23).is("why", b.x.why(), 4);
    b.throwing("one of more than 60", STATE, () -> b.x.swap(0, 2)).is("why", b.x.why(), 8);
    b.throwing("the other way", STATE, () -> b.x.swap(2, 0)).is("why", b.x.why(), 8).is("state", b.all(), before);
    b.is("freed", b.x.free(1), 513).is("told for the long one", b.tell(2, ""), 133);
    b.is("no pair of it", b.x.count(12), 3).is("told for others", b.tell(1, many("\\", 60)), 252);
    b.is("for the last", b.tell(3, many("\\", 60)), 371).is("NOW is short then", b.x.swap(0, 2), 371);
    b.throwing("free", STATE, () -> b.x.free(2)).is("why", b.x.why(), 3).is("it stays", b.x.piece(2, 4), 1);
    b.throwing("a text", ARGUMENT, () -> b.acts("free 2")).is("why", b.x.why(), 3).is("fault", b.x.fault(), 0);
    Bench c = new Bench("60 and 61 bytes").file("a=" + many("x", 60) + "\nb=" + many("y", 61));
    c.tell(0, "p");
    c.tell(1, "q");
    c.is("pairs", c.x.count(12), 1).is("TEXT", c.x.piece(0, 7), 0).is("none", c.x.piece(1, 7), -1).is("swap", c.x.swap(0, 1), 7);
    c.x.wipe();
    c.throwing("61", STATE, () -> c.x.swap(0, 1)).is("why", c.x.why(), 8);
    Bench d = new Bench("swap and 600").file("a=" + many("\\\\", 60) + "\nb=" + many("x", 60) + "\nc=" + many("\\\\", 60) + "\nd=y");
    d.is("bytes", d.x.count(0), 312).is("swap", d.x.swap(0, 1), 312).is("BUILT", d.x.twice(), true);
  }

  // Promise 13
  private static void free() {
    Bench b = new Bench("13 free").file("a=x\nb=y");
    b.throwing("no piece", STATE, () -> b.x.free(2)).is("why", b.x.why(), 1).throwing("below", STATE, () -> b.x.free(-1));
    b.throwing("nothing", STATE, () -> b.x.free(0)).is("why", b.x.why(), 4);
    b.tell(0, "long");
    b.tell(1, "");
    b.is("free", b.x.free(0), 6).is("BUILT", b.built(), "a=x\nb=").is("a told nothing is told", b.x.free(1), 7);
    b.is("why", b.x.why(), 0).is("memory stays", b.x.count(12), 2).is("remembered", b.x.count(14), 4);
  }

  // Promise 14
  private static void spread() {
    Bench b = new Bench("14 spread").file("a=x\nb=\\x\nc=x\nd=x");
    b.throwing("no piece", STATE, () -> b.x.spread(4)).is("why", b.x.why(), 1);
    b.throwing("nothing", STATE, () -> b.x.spread(0)).is("why", b.x.why(), 4);
    b.tell(3, "z");
    b.tell(0, "w");
    b.is("spread", b.x.spread(3), 2).is("BUILT", b.built(), "a=z\nb=\\x\nc=z\nd=z").is("again", b.x.spread(0), 2);
    b.is("no pairs", b.x.count(12), 2).is("told", b.x.count(4), 3);
    b.tell(1, "v");
    b.is("alone", b.x.spread(1), 0).is("remembered", b.x.count(14), 6);
    b.kinds(1, 2).file("x,\"x\"");
    b.tell(1, "p,q");
    b.throwing("it cannot be for one", STATE, () -> b.x.spread(1)).is("why", b.x.why(), 2).is("told", b.x.count(4), 1);
    b.kinds(2, -1).file("&lt;<p><</p>&lt;");
    b.is("by TEXT", b.texts(), "|<|<");
    b.tell(0, ">");
    b.is("spread", b.x.spread(0), 1).is("BUILT", b.built(), "&gt;<p><</p>&gt;");
  }

  // Promise 15
  private static void swap() {
    Bench b = new Bench("15 swap").file("a=x\nb=yy\nc=z");
    b.throwing("no piece", STATE, () -> b.x.swap(0, 3)).is("why", b.x.why(), 1);
    b.throwing("none twice", STATE, () -> b.x.swap(3, 3)).is("why", b.x.why(), 1);
    b.throwing("one", STATE, () -> b.x.swap(1, 1)).is("why", b.x.why(), 5);
    b.is("swap", b.x.swap(0, 1), 12).is("BUILT", b.built(), "a=yy\nb=x\nc=z").is("no pairs", b.x.count(12), 0);
    b.tell(2, "");
    b.is("swap", b.x.swap(2, 0), 11).is("BUILT", b.built(), "a=\nb=x\nc=yy").is("told", b.x.count(4), 3);
    b.kinds(1, 0).file("k=a,\"m=b,c\"");
    b.throwing("cannot be", STATE, () -> b.x.swap(0, 1)).is("why", b.x.why(), 2).is("told", b.x.count(4), 0);
    b.throwing("the other way", STATE, () -> b.x.swap(1, 0)).is("why", b.x.why(), 2);
    b.kinds(1, 0).file("k=a,\"m=b," + many("x", 60) + "\"");
    b.throwing("8 is ahead of 2", STATE, () -> b.x.swap(0, 1)).is("why", b.x.why(), 8);
  }

  // Promise 16
  private static void wipe() {
    Bench b = new Bench("16 wipe").file("a=x\nb=y\nc=z");
    b.throwing("nothing", STATE, () -> b.x.wipe()).is("why", b.x.why(), 4);
    b.tell(0, "");
    b.tell(2, "q");
    b.is("wipe", b.x.wipe(), 2).is("BUILT", b.built(), "a=x\nb=y\nc=z").is("memory stays", b.x.count(12), 2).is("why", b.x.why(), 0);
    b.is("undo", b.x.undo(), 2).is("BUILT", b.built(), "a=\nb=y\nc=q");
  }

  // Promise 17
  private static void undo() {
    Bench b = new Bench("17 undo").file("a=x\nb=y");
    b.throwing("none", STATE, () -> b.x.undo());
    b.tell(0, "p");
    b.tape("a").x.lock();
    b.x.kind(1, false);
    b.x.kind(2, true);
    b.x.rule(0, 1);
    b.x.rule(1, 5);
    b.x.unlock();
    b.is("remembered", b.x.count(14), 7).is("undo", b.x.undo(), 6).is("LOCKS", b.x.count(9), 1).is("undo", b.x.undo(), 5);
    b.is("LEAST", b.x.count(8), 1).is("undo", b.x.undo(), 4).is("LETTERS", b.x.count(7), 0).is("undo", b.x.undo(), 3);
    b.is("INNER", b.x.count(2), -1).is("undo", b.x.undo(), 2).is("KIND", b.x.count(1), 0).is("texts", b.texts(), "|y");
    b.is("undo", b.x.undo(), 1).is("what was told is told again", b.built(), "a=p\nb=y").is("undo", b.x.undo(), 0);
    b.is("nothing told", b.built(), "a=x\nb=y").is("memory goes back", b.x.count(12), 0).throwing("none", STATE, () -> b.x.undo());
    for (int i = 0; i < 10; i++) {
      b.tell(0, "" + i);
    }
    b.is("8", b.x.count(14), 8);
    b.throwing("refused", STATE, () -> b.x.free(9)).is("refused ones are not remembered", b.x.count(14), 8);
    for (int i = 7; i >= 0; i--) {
      b.is("undo", b.x.undo(), i).is("NOW", b.now(0), "" + (i + 1));
    }
    b.is("pairs", b.x.count(12), 2).throwing("no more", STATE, () -> b.x.undo());
    b.tell(1, "z");
    b.is("a right text forgets", b.acts("any") + " " + b.x.count(14), "1 0");
    b.tell(1, "z");
    b.throwing("a wrong text", ARGUMENT, () -> b.acts("any;")).is("forgets nothing", b.x.count(14), 1);
    b.is("an empty text is right", b.acts("") + " " + b.x.count(14), "0 0");
    b.tell(1, "z");
    b.is("no image", b.x.back() + " " + b.x.count(14), "false 1");
    b.x.image();
    b.is("going back forgets", b.x.back() + " " + b.x.count(14), "true 0");
    b.x.swap(0, 1);
    b.x.spread(0);
    b.x.free(0);
    b.x.wipe();
    b.is("all acts are remembered", b.x.count(14), 4).is("undo", b.x.undo() + b.built(), "3a=x\nb=x");
    b.tape("left");
    b.is("undo leaves the tape", b.x.undo() + " " + b.x.end(4), "2 true");
  }

  // Promise 18
  private static void piece() {
    Bench b = new Bench("18 piece").file("a=x\\ny \nb=\\x\nc=x\\ny ");
    b.is("0 to 9", all(b, 0), "2 7 4 4 0 2 2 -1 5 2");
    b.tell(0, "one 2 Three\nfour");
    b.is("told", all(b, 0), "2 7 4 16 1 2 3 0 17 2").is("the one behind", all(b, 1), "10 12 2 2 0 1 1 -1 2 22");
    b.tell(1, "");
    b.tell(2, " ");
    b.is("known by the latest", b.x.piece(0, 7), 0).is("of b", b.x.piece(1, 7), 1).is("told nothing", all(b, 1), "10 12 2 0 1 1 0 1 0 22");
    b.is("last", all(b, 2), "15 20 4 1 1 2 0 0 2 25");
    for (int what : new int[] {-1, 10, Integer.MIN_VALUE, Integer.MAX_VALUE}) {
      b.throwing("what " + what, ELEMENT, () -> b.x.piece(0, what)).throwing("no piece first", INDEX, () -> b.x.piece(3, what));
    }
    b.throwing("below", INDEX, () -> b.x.piece(-1, 0)).throwing("most", INDEX, () -> b.x.piece(Integer.MAX_VALUE, 0));
    b.kinds(1, -1).file("a,b");
    b.tell(0, "x,y");
    b.is("a piece begins at the \" put around", all(b, 0), "0 1 1 3 1 1 2 0 5 0").is("the next", b.x.piece(1, 9), 6);
    b.file("aZ[`{@b1c\u00e9d");
    b.is("words", b.x.piece(0, 6), 4);
  }

  private static String all(Bench b, int piece) {
    StringBuilder all = new StringBuilder();
    for (int what = 0; what < 10; what++) {
      all.append(' ').append(b.x.piece(piece, what));
    }
    return all.substring(1);
  }

  // Promises 19 and 20
  private static void octetAndOrigin() {
    Bench b = new Bench("19, 20 octet and origin").file("a=\\n\u00ff\\\\\\q");
    b.is("octets", b.text(0), "\n\u00ff\\\\q").is("origins", b.x.origin(0, 0) + " " + b.x.origin(0, 1) + " " + b.x.origin(0, 2), "2 4 5");
    b.is("more", b.x.origin(0, 3) + " " + b.x.origin(0, 4) + " " + b.x.origin(0, 5) + " " + b.x.origin(0, -1), "7 8 -1 -1");
    b.is("none", b.x.octet(0, 5, false) + " " + b.x.octet(0, -1, false) + " " + b.x.octet(0, Integer.MAX_VALUE, true), "-1 -1 -1");
    b.tell(0, "xyzxyzxyz");
    b.is("NOW", b.x.octet(0, 8, true) + " " + b.x.octet(0, 9, true), "122 -1").is("TEXT", b.text(0), "\n\u00ff\\\\q");
    b.is("ORIGIN is of the TEXT", b.x.origin(0, 8), -1);
    b.throwing("octet", INDEX, () -> b.x.octet(1, 0, false)).throwing("octet", INDEX, () -> b.x.octet(-1, 0, true));
    b.throwing("origin", INDEX, () -> b.x.origin(1, 0));
    b.kinds(3, 2).file("\"\\\"a&\\nb&lt;\\t\"");
    b.is("texts", b.texts(), "|\"a&\nb<\t");
    b.is("origins", b.x.origin(0, 0) + " " + b.x.origin(0, 3) + " " + b.x.origin(0, 5) + " " + b.x.origin(0, 6), "1 5 8 12");
  }

  // Promise 21
  private static void key() {
    Bench b = new Bench("21 key").file("  a b  = x\n   =y\nlong=z");
    b.is("keys", keys(b, 0) + " " + keys(b, 1) + " " + keys(b, 2), "2/3 14/0 17/4");
    b.throwing("what", ELEMENT, () -> b.x.key(0, 2)).throwing("what", ELEMENT, () -> b.x.key(0, -1));
    b.throwing("piece", INDEX, () -> b.x.key(3, 0)).throwing("piece first", INDEX, () -> b.x.key(-1, 9));
    b.x.kind(1, true);
    b.is("with an inner kind", keys(b, 0), "2/3");
    b.x.kind(1, false);
    b.x.kind(0, true);
    b.is("of another kind", keys(b, 0), "-1/-1").throwing("what is looked at first", ELEMENT, () -> b.x.key(0, 2));
  }

  private static String keys(Bench b, int piece) {
    return b.x.key(piece, 0) + "/" + b.x.key(piece, 1);
  }

  // Promises 22 and 23
  private static void holderAndAt() {
    Bench b = new Bench("22, 23 holder and at").kinds(1, -1).file("ab,\"c\"\"d\"");
    b.is("holders", b.x.holder(0) + " " + b.x.holder(1) + " " + b.x.holder(2) + " " + b.x.holder(3), "0 0 -1 -1");
    b.is("more", b.x.holder(4) + " " + b.x.holder(7) + " " + b.x.holder(8) + " " + b.x.holder(9), "1 1 -1 -1");
    b.is("far", b.x.holder(-1) + " " + b.x.holder(Integer.MAX_VALUE) + " " + b.x.holder(Integer.MIN_VALUE), "-1 -1 -1");
    b.tell(0, "");
    b.is("the FILE's places stay", b.x.holder(1), 0).is("FILE", b.fileText(), "ab,\"c\"\"d\"").is("BUILT", b.built(), ",\"c\"\"d\"");
    b.is("at", b.x.at(-1, false) + " " + b.x.at(9, false) + " " + b.x.at(7, true) + " " + b.x.at(6, true), "-1 -1 -1 34");
    b.is("far", b.x.at(Integer.MAX_VALUE, true) + " " + b.x.at(Integer.MIN_VALUE, false), "-1 -1");
  }

  // Promise 24
  private static void like() {
    Bench b = new Bench("24 like").kinds(2, -1).file("<<>a<>b<>a<>&amp;<>&<>a");
    b.is("texts", b.texts(), "|a|b|a|&|&|a");
    b.is("like 2", b.x.like(2, 0) + " " + b.x.like(2, 1) + " " + b.x.like(2, 2) + " " + b.x.like(2, 3), "0 2 5 -1");
    b.is("like 3", b.x.like(3, 0) + " " + b.x.like(3, 1), "3 4").is("below", b.x.like(0, -1), -1).is("far", b.x.like(0, 99), -1);
    b.tell(0, "z");
    b.is("by TEXT, not NOW", b.x.piece(5, 5), 3);
    b.throwing("no piece", INDEX, () -> b.x.like(6, 0)).throwing("below", INDEX, () -> b.x.like(-1, 0));
  }

  // Promise 25
  private static void would() {
    Bench b = new Bench("25 would").file("a=x");
    b.is("would", b.tape(" \\\n").x.would(0), 6).is("nothing is told", b.x.count(4), 0).is("the tape is used up", b.x.end(1), false);
    b.is("nothing", b.tape("").x.would(0), 0).is("60", b.tape(many("\\", 60)).x.would(0), 120);
    b.throwing("61", ARGUMENT, () -> b.tape(many("x", 61)).x.would(0)).is("the tape is used up", b.x.end(1), false);
    b.throwing("no piece first", INDEX, () -> b.tape(many("x", 61)).x.would(1)).is("the tape is used up", b.x.end(1), false);
    b.throwing("below", INDEX, () -> b.tape("x").x.would(-1)).is("why", b.x.why(), 0).is("remembered", b.x.count(14), 0);
    b.kinds(1, 0).file("k=a,\"k=a\"");
    b.is("it cannot be", b.tape(",").x.would(0), -1).is("it can be", b.tape(",\"").x.would(1), 3).is("a 10 can be", b.tape("\n").x.would(0), 2);
    b.kinds(2, 2).file("x").is("twice escaped", b.tape("<&").x.would(0), 17);
  }

  // Promise 26
  private static void found() {
    Bench b = new Bench("26 found").file("a=One two\nb=twofold\nc=1TWO2\nd=two");
    b.is("two", b.tape("two").x.found(), 0b1111).is("fold", b.tape("fold").x.found(), 2).is("one", b.tape("one").x.found(), 1);
    b.is("xwo", b.tape("xwo").x.found(), 0).is("twoo", b.tape("twoo").x.found(), 0).is("tw", b.tape("tw").x.found(), 0b1111);
    b.is("wof", b.tape("wof").x.found(), 2).is("not over a BLANK", b.tape("onetwo").x.found(), 0);
    b.is("longer than most", b.tape("twofold").x.found(), 2).is("longer than all", b.tape("twofolds").x.found(), 0);
    b.tell(3, "aZ-zA@AZ[za{`");
    b.is("az", b.tape("az").x.found(), 8).is("za", b.tape("za").x.found(), 8).is("words", b.x.piece(3, 6), 4);
    b.x.free(3);
    b.tell(3, "x");
    b.is("in NOW", b.tape("two").x.found(), 0b111).is("x", b.tape("x").x.found(), 8).is("the tape is used up", b.x.end(1), false);
    for (String wrong : new String[] {"", "Two", "two ", "a1", "abcdefghi"}) {
      b.throwing("<" + wrong + ">", ARGUMENT, () -> b.tape(wrong).x.found()).is("the tape is used up", b.x.end(1), false);
    }
    b.kinds(1, -1).file(many("a,", 39) + "abcdefgh");
    b.is("40 pieces", b.tape("abcdefgh").x.found(), 1L << 39).is("all", b.tape("a").x.found(), (1L << 40) - 1).is("h", b.tape("h").x.found(), 1L << 39);
    b.kinds(0, -1).file("a=tw\nb=o").is("over a border", b.tape("two").x.found(), 0).is("at both ends", b.tape("o").x.found(), 2);
    b.file("a=aab\nb=aaab").is("begun anew", b.tape("aaab").x.found(), 2).is("aab", b.tape("aab").x.found(), 3);
    b.tell(0, "");
    b.is("NOW is empty", b.tape("a").x.found(), 2);
  }

  // Promise 27
  private static void memory() {
    Bench b = new Bench("27 memory").file("a=x\nb=y");
    for (int i = 0; i < 13; i++) {
      b.tell(i % 2, "t" + i);
    }
    b.is("12", b.x.count(12), 12).is("latest", b.pairText(0) + b.pairTold(0), "xt12").is("last", b.pairText(11) + b.pairTold(11), "yt1");
    b.is("none", b.x.memory(12, true, 0) + " " + b.x.memory(-1, true, 0) + " " + b.x.memory(0, true, 3), "-1 -1 -1");
    b.is("none", b.x.memory(0, false, -1) + " " + b.x.memory(Integer.MAX_VALUE, false, 0), "-1 -1");
    b.tell(0, "t12");
    b.is("a pair again", b.pairTold(0) + b.pairTold(1) + b.pairText(1), "t12t12x").is("undo", b.x.undo(), 7);
    b.is("it goes back", b.pairText(11) + b.pairTold(11), "yt1").is("known", b.x.piece(1, 7), 1);
    b.file("q=y");
    b.is("kept over files", b.x.piece(0, 7), 1).is("told", b.pairTold(b.x.piece(0, 7)), "t11");
    b.throwing("refused", STATE, () -> b.tell(1, "z")).is("no pair of a refused one", b.pairTold(0), "t12");
  }

  // Promise 28
  private static void kept() {
    Bench b = new Bench("28 kept").kinds(1, -1).file("a,b,\"c\"");
    b.is("as they are", b.x.kept(0) + " " + b.x.kept(1) + " " + b.x.kept(2), "true true true");
    b.tell(0, "x,\"y");
    b.tell(1, "");
    b.tell(2, "\"\n");
    b.is("told", b.x.kept(0) + " " + b.x.kept(1) + " " + b.x.kept(2), "true false true").is("twice", b.x.twice(), false);
    b.throwing("no piece", INDEX, () -> b.x.kept(3) ? 1 : 0).throwing("below", INDEX, () -> b.x.kept(-1) ? 1 : 0);
    b.kinds(2, -1).file("<p>x</p>y");
    b.tell(0, " z");
    b.is("blanks ahead go", b.x.kept(0) + " " + b.x.kept(1), "false true");
    b.tell(0, "z ");
    b.is("blanks behind go", b.x.kept(0), false);
    b.x.rule(1, 1);
    b.x.rule(0, 1);
    b.tell(0, "1");
    b.is("no letter is left", b.x.kept(0) + " " + b.x.kept(1) + " " + b.x.twice(), "false true false");
    b.kinds(3, 1).file("\"a,b\"");
    b.tell(1, "p,q");
    b.is("a \" that is escaped again", b.built(), "\"a,\\\"p,q\\\"\"").is("kept", b.x.kept(1) + " " + b.x.kept(0), "true true");
    b.kinds(0, 1).file("k=a,b");
    b.tell(0, "p,q");
    b.is("a \" as it is", b.built(), "k=\"p,q\",b").is("kept", b.x.kept(0) + " " + b.x.kept(1), "true true");
    b.kinds(2, 1).file("<p>a,b");
    b.tell(1, "<,");
    b.is("a \" in markup", b.built(), "<p>a,\"&lt;,\"").x.rule(0, 0);
    b.tell(1, "<,");
    b.is("kept", b.x.kept(0) + " " + b.x.kept(1), "true true");
    b.kinds(1, 1).file("\"a,b\"");
    b.tell(0, "p\"");
    b.is("two \" in a quoted cell", b.built(), "\"\"\"p\"\"\"\"\"\",b\"").is("kept", b.x.kept(0) + " " + b.x.kept(1), "true true");
    b.x.rule(0, 0);
    b.kinds(0, 3).file("k=\"a\" \"b\"");
    b.tell(1, "\"");
    b.is("quotes in lines", b.built(), "k=\"a\" \"\\\\\"\"").is("kept", b.x.kept(0) + " " + b.x.kept(1), "true true");
  }

  // Promise 29
  private static void twice() {
    Bench b = new Bench("29 twice").file("a=x\nb=y");
    b.tell(0, "");
    b.is("a piece fewer", b.x.twice(), false);
    b.tell(0, " \n\t\\n ");
    b.is("escapes come back", b.x.twice(), true);
    b.x.rule(1, 2);
    b.is("no pieces", b.x.twice(), true);
    b.x.rule(1, 1);
    b.kinds(0, 0).file("k=a=b");
    b.tell(0, "x\ny=z");
    b.is("an inner 10 comes back", b.built() + b.x.twice(), "k=a=x\\\\ny=ztrue");
    b.kinds(2, -1).file("a<p>b");
    b.tell(1, "\n");
    b.tell(0, " c");
    b.tell(1, "b");
    b.is("as many, but not the same", b.x.twice() + " " + b.x.kept(1), "false true");
    b.x.undo();
    b.x.undo();
    b.is("a break alone goes", b.x.twice(), false).is("undo", b.x.undo(), 0).is("back again", b.x.twice(), true);
    b.x.rule(0, 1);
    b.kinds(1, -1).file(many("a,b,", 20) + "c");
    b.tell(0, "1");
    b.is("as many, as long, but not the same", b.x.twice() + " " + b.x.kept(0) + " " + b.x.kept(1), "false false true");
  }

  // Promises 30 and 31
  private static void imageAndBack() {
    Bench b = new Bench("30, 31 image and back").kinds(0, 1).file("a=x,y\nb=z");
    b.tape("q").x.lock();
    b.x.rule(0, 1);
    b.tell(1, "told");
    String before = b.all();
    b.x.image();
    b.acts("plain;kind 3;any;least 9;unlock");
    b.file("\"new\"");
    b.throwing("wrong", ARGUMENT, () -> b.acts("any;x"));
    b.throwing("free", STATE, () -> b.x.free(7));
    b.tape("left").is("back", b.x.back(), true).is("all", b.all(), before).is("remembered", b.x.count(14), 0);
    b.is("the tape", b.x.end(5) + " " + b.x.end(4), "false true").is("fault", b.x.fault(), 4).is("why", b.x.why(), 1);
    b.tell(0, "w");
    b.is("back again", b.x.back(), true).is("all", b.all(), before).is("memory", b.x.count(12), 1);
    b.file("n=1");
    b.x.image();
    b.file("");
    b.is("the latest image", b.x.back() + b.fileText(), "truen=1");
  }

  // Promise 32
  private static void count() {
    Bench b = new Bench("32 count").kinds(1, 2).file("ab c,<b>x,x\n\"ab c\"");
    b.x.rule(1, 1);
    b.tape("w").x.lock();
    b.tell(0, "d");
    b.is("the longest is the first", b.x.count(13), 4);
    int[] due = {18, 1, 2, 4, 1, 15, 8, 0, 1, 1, 2, 5, 1, 4, 5};
    for (int i = 0; i < due.length; i++) {
      b.is("count(" + i + ")", b.x.count(i), i == 14 ? 3 : due[i]);
    }
    for (int what : new int[] {-1, 15, Integer.MIN_VALUE, Integer.MAX_VALUE}) {
      b.is("count(" + what + ")", b.x.count(what), -1);
    }
  }
}
