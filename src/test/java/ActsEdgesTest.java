/** The edges of ACTS (promises 4 to 6, 10 to 17, "==== 2"): a case for each sentence, at the edge and beside it. */
public final class ActsEdgesTest {
  private static final Class<?> ARGUMENT = IllegalArgumentException.class;
  private static final Class<?> STATE = IllegalStateException.class;
  private static final String[] WORDS = {"kind", "inner", "plain", "letters", "any", "least", "lock", "unlock", "free", "spread", "swap", "wipe"};
  private static final String TWO = "a=x\nb=y";
  private static final String FULL = many("\\", 60);

  public static void main(String[] args) {
    textWithoutActs();
    fourteenActs();
    actWords();
    actsByTexts();
    actNumbers();
    actBounds();
    lockWordsInTexts();
    blanksInTexts();
    moreMustCome();
    whatCannotStand();
    refusedInTexts();
    doneOneBehindAnother();
    ofWrongTextsNothingStays();
    faultOfTheLatest();
    whyOfTheLatest();
    whyThatStays();
    toldOfMost();
    builtOfMostByTell();
    builtOfMostByFree();
    builtOfMostBySpread();
    builtOfMostBySwap();
    escapesOfLines();
    escapesOfTables();
    escapesOfTablesWithin();
    escapesOfMarkup();
    escapesOfQuotes();
    cannotBe();
    tellRefused();
    freeRefused();
    spreadRefused();
    swapRefused();
    swapOfLongOnes();
    wipeRefused();
    twelvePairs();
    pairsOfLongOnes();
    whatLeavesTheMemory();
    eightRemembered();
    noneRemembered();
    takenBack();
    takenBackLocks();
    System.out.println(Bench.allChecks() + " checks, " + Bench.wrongOnes() + " wrong");
    System.exit(Bench.wrongOnes() == 0 ? 0 : 1);
  }

  private static String many(String text, int times) {
    return text.repeat(times);
  }

  private static Bench of(String title, int kind, int inner, String file) {
    return new Bench(title).kinds(kind, inner).file(file);
  }

  /** Two pieces, of which something is told for the second one; one act is remembered. */
  private static Bench two(String title) {
    Bench b = new Bench(title).file(TWO);
    b.tell(1, "t");
    return b;
  }

  /** On a new object the text is wrong at this place, and it has changed nothing but fault() and the tape. */
  private static void wrong(String text, int place) {
    wrong(text, place, 0);
  }

  private static void wrong(String text, int place, int why) {
    Bench b = two("<" + text + ">");
    String before = b.all();
    b.throwing("acts", ARGUMENT, () -> b.acts(text)).is("fault", b.x.fault(), place).is("why", b.x.why(), why);
    b.is("state", b.all(), before).is("remembered", b.x.count(14), 1).tapeHas("it", 0);
  }

  private static void right(String text, int acts) {
    Bench b = two("<" + text + ">");
    b.is("acts", b.acts(text), acts).is("fault", b.x.fault(), -1).is("why", b.x.why(), 0).is("remembered", b.x.count(14), 0);
    b.tapeHas("it", 0);
  }

  /** The act is refused by this number and changes nothing but why(). */
  private static void refused(Bench b, String what, int why, java.util.function.LongSupplier act) {
    String before = b.all();
    int remembered = b.x.count(14);
    b.throwing(what, STATE, act).is("why of " + what, b.x.why(), why).is("state behind " + what, b.all(), before);
    b.is("remembered behind " + what, b.x.count(14), remembered).is("fault behind " + what, b.x.fault(), -1);
  }

  // "[ ACT { ; ACT } ]"; promise 4
  private static void textWithoutActs() {
    right("", 0);
    right(" ", 0);
    right(many(" ", 400), 0);
    right("any", 1);
    right("any;any", 2);
    right(many(" ", 397) + "any", 1);
    right("any" + many(" ", 397), 1);
    wrong(";", 0);
    wrong(" ;", 1);
    wrong(";any", 0);
    wrong(many(" ", 399) + ";", 399);
  }

  // "at most 14", "of an ACT too many ... its first word"
  private static void fourteenActs() {
    right(many("any;", 12) + "any", 13);
    right(many("any;", 13) + "any", 14);
    right(many("any;", 13) + "any  ", 14);
    wrong(many("any;", 14) + "any", 56);
    wrong(many("any;", 14) + "  any", 58);
    wrong(many("any;", 14) + "kind 9", 56);
    wrong(many("any;", 14) + "wipe", 56);
    wrong(many("any;", 14) + "x", 56);
    wrong(many("any;", 14) + "any;any", 56);
    wrong(many("any;", 14), 56);
    wrong(many("any;", 14) + " ", 57);
    wrong(many("any;", 13) + "any any", 56);
    wrong(many("any;", 99) + "any", 56);
    wrong(many("any;", 13) + "kind 4", 57);
  }

  // "words as long as a to z go on", "a word that is none"
  private static void actWords() {
    for (String word : WORDS) {
      wrong(word + "x", 0);
      wrong("x" + word, 0);
      wrong(word.substring(1), 0);
      wrong("x" + word.substring(1), 0);
      wrong(word.substring(0, word.length() - 1) + "z", 0);
      wrong(" " + word.substring(0, word.length() - 1), 1);
      wrong("any;" + word.substring(0, 1).toUpperCase() + word.substring(1), 4);
      wrong(word + "z 1", 0);
    }
    wrong("tell 0", 0);
    wrong("undo", 0);
    wrong("file", 0);
    wrong("{", 0);
    wrong("`", 0);
    wrong("5", 0);
    wrong("k ind 1", 0);
    wrong("kindkind 1", 0);
    wrong("anyany", 0);
    right("kind1;any;inner1;plain;least1;any", 6);
  }

  // "kind N | inner N | plain | letters | any | least N | lock W | unlock | free N | spread N | swap N N | wipe"
  private static void actsByTexts() {
    String file = "a=x,y\nb=x\nc=1";
    Bench b = new Bench("what each ACT does").file(file);
    b.is("kind", b.acts("kind 3") + " " + b.x.count(1) + b.texts(), "1 3").is("kind", b.acts("kind 0") + " " + b.x.count(1), "1 0");
    b.is("inner", b.acts("inner 1") + " " + b.x.count(2) + b.texts(), "1 1|x|y|x|1");
    b.is("plain", b.acts("plain") + " " + b.x.count(2) + b.texts(), "1 -1|x,y|x|1");
    b.is("letters", b.acts("letters") + " " + b.x.count(7) + b.texts(), "1 1|x,y|x").is("any", b.acts("any") + " " + b.x.count(7) + b.texts(), "1 0|x,y|x|1");
    b.is("least", b.acts("least 2") + " " + b.x.count(8) + b.texts(), "1 2|x,y").is("least", b.acts("least 01") + " " + b.x.count(8), "1 1");
    b.is("lock", b.acts("lock a") + " " + b.x.count(9) + b.texts(), "1 1|x|1").is("unlock", b.acts("unlock") + " " + b.x.count(9), "1 0");
    b.x.kind(1, true);
    b.tell(0, "p");
    b.is("spread", b.acts("spread 0") + b.built(), "1a=p,y\nb=p\nc=1").is("swap", b.acts("swap 1 2") + b.built(), "1a=p,p\nb=y\nc=1");
    b.is("free", b.acts("free 0") + b.built(), "1a=x,p\nb=y\nc=1").is("wipe", b.acts("wipe") + b.built(), "1" + file);
    b.is("none makes a pair", b.x.count(12), 1);
  }

  // "Numbers are of 1 to 2 digits", "a number of more digits"
  private static void actNumbers() {
    right("kind 0", 1);
    right("kind 00", 1);
    wrong("kind 000", 5);
    wrong("kind 0000000000000000000000000000000001", 5);
    wrong("kind  000", 6);
    wrong("kind 4294967296", 5);
    wrong("kind x", 5);
    wrong("kind /", 5);
    wrong("kind :", 5);
    wrong("kind -0", 5);
    wrong("kind +1", 5);
    wrong("kind 1x", 6);
    wrong("kind 1/", 6);
    wrong("kind 1:", 6);
    wrong("kind 1 1", 7);
    wrong("kind 0 0", 7);
    wrong("swap 000 1", 5);
    wrong("swap 0 001", 7);
    wrong("swap 001", 5);
    wrong("swap 01", 7);
    right("swap 0 1", 1);
    right("swap00 01", 1);
    right("swap 01 00", 1);
  }

  // "or out of its bounds (PIECES 0 to 39)"
  private static void actBounds() {
    right("kind 3", 1);
    wrong("kind 4", 5);
    wrong("kind 04", 5);
    wrong("kind 10", 5);
    wrong("kind 99", 5);
    right("inner 0", 1);
    right("inner 3", 1);
    wrong("inner 4", 6);
    wrong("least 0", 6);
    wrong("least 00", 6);
    right("least 1", 1);
    right("least 40", 1);
    wrong("least 41", 6);
    wrong("free 40", 5);
    wrong("spread 40", 7);
    wrong("swap 40 0", 5);
    wrong("swap 0 40", 7);
    wrong("swap 40 40", 5);
    wrong("free 99", 5);
    wrong("free 39", 0, 1);
    wrong("spread 39", 0, 1);
    wrong("swap 0 39", 0, 1);
    wrong("swap 39 0", 0, 1);
    Bench b = of("the PIECES 39 and 0", 1, -1, many("x,", 40));
    b.tell(39, "p");
    b.is("both are there", b.acts("swap 39 0;swap 0 39;spread 39;free 39;free 0"), 5).is("TOLD", b.x.count(4), 38);
  }

  // "lock: a word of 1 to 8 letters a to z", "or too long"
  private static void lockWordsInTexts() {
    right("lock a", 1);
    right("lock z", 1);
    right("lock abcdefgh", 1);
    wrong("lock abcdefghi", 5);
    wrong("lock  " + many("z", 300), 6);
    wrong("lock A", 5);
    wrong("lock `", 5);
    wrong("lock {", 5);
    wrong("lock aA", 6);
    wrong("lock a b", 7);
    wrong("lock abcdefgh i", 14);
    wrong("lock ;", 5);
    wrong("lock 1", 5);
    wrong("locka", 0);
    wrong("lockA", 4);
    right("lock lock", 1);
    right("lock any;lock kind;unlock", 3);
    Bench b = new Bench("a word of 8").file("abcdefgh=1\nabcdefg=2");
    b.is("lock", b.acts("lock abcdefgh") + b.texts(), "1|2");
  }

  // "between all there may be BLANKS, also ahead and behind"
  private static void blanksInTexts() {
    right("  kind   1  ;  swap  0  1  ;  lock   b  ", 3);
    right("kind1;swap0 1;lock b", 3);
    wrong("\tany", 0);
    wrong("any\t", 3);
    wrong("kind\t1", 4);
    wrong("any\n;any", 3);
    wrong("any;\nany", 4);
    wrong("any\0", 3);
    wrong("any \u001f", 4);
    wrong("any!", 3);
  }

  // "or the text's length, if more must come"
  private static void moreMustCome() {
    for (String text : new String[] {"kind", "kind ", "kind    ", "inner", "least", "free", "free ", "spread", "lock", "lock ", "swap", "swap ",
        "swap 0", "swap 0 ", "swap 00", "any;", "any; ", "any  ;   ", "any;kind", "any;any;"}) {
      wrong(text, text.length());
    }
    wrong("kind" + many(" ", 396), 400);
    wrong("any;kin", 4);
    wrong("any;k", 4);
  }

  // "the begin of the first thing that cannot stand there"
  private static void whatCannotStand() {
    wrong("any any", 4);
    wrong("any,any", 3);
    wrong("any;;any", 4);
    wrong("any ; ; any", 6);
    wrong("kind;", 4);
    wrong("kind ;1", 5);
    wrong("kind 1 any", 7);
    wrong("swap 0;", 6);
    wrong("swap ;", 5);
    wrong("swap 0 ;", 7);
    wrong("swap 0,1", 6);
    wrong("swap 0 x", 7);
    wrong("swap x 0", 5);
    wrong("swap 0 1 1", 9);
    wrong("plain 1", 6);
    wrong("plain1", 5);
    wrong("wipe 1", 5);
    wrong("letters on", 8);
    wrong("kind x;y", 5);
    wrong("kind 9 x", 5);
  }

  // "one that is refused, its first word", "each read whole ahead of it"
  private static void refusedInTexts() {
    wrong("free 0", 0, 4);
    wrong("  free 0", 2, 4);
    wrong("any;wipe", 4, 4);
    wrong("free 2", 0, 1);
    wrong("spread 0", 0, 4);
    wrong("spread 2", 0, 1);
    wrong("swap 0 2", 0, 1);
    wrong("swap 1 1", 0, 5);
    wrong("wipe ; wipe", 7, 4);
    wrong("lock a;lock a", 7, 7);
    wrong("lock a;lock b;lock c;lock d;lock e", 28, 6);
    wrong("lock a;lock b;lock c;lock d;lock d", 28, 6);
    wrong("free 0;x", 0, 4);
    wrong("free 0 x", 0, 4);
    wrong("free 0 0", 0, 4);
    wrong("swap 0", 6);
    wrong("free 400", 5);
    wrong("swap 1 1x", 0, 5);
    wrong("free 1;free 1", 7, 4);
    wrong(many("any;", 13) + "wipe", 52, 4);
  }

  // "They are done one behind another"
  private static void doneOneBehindAnother() {
    Bench b = new Bench("one behind another").file("ab,cd\nef");
    b.is("none in LINES", b.x.count(3), 0).is("acts", b.acts("kind 1;swap 0 2;swap 1 2;free 0"), 4).is("BUILT", b.built(), "ab,ab\ncd");
    b.is("kind cuts anew", b.acts("kind 1;least 2;letters") + " " + b.x.count(4), "3 0");
    b.is("swap and swap", b.acts("swap 0 1;swap 1 0;spread 0;wipe;swap 0 1") + b.built(), "5cd,ab\nef");
    b.throwing("kind 0 has none", ARGUMENT, () -> b.acts("kind 0;swap 0 1")).is("fault", b.x.fault(), 7).is("why", b.x.why(), 1);
    b.is("BUILT stays", b.built(), "cd,ab\nef");
  }

  // "Of a wrong text nothing stays."
  private static void ofWrongTextsNothingStays() {
    for (String act : new String[] {"kind 1", "inner 1", "letters", "least 2", "lock a", "unlock", "free 1", "spread 1", "swap 0 1", "wipe",
        "plain", "any", "kind 0", "least 1"}) {
      wrong(act + ";", act.length() + 1);
      wrong(act + ";x", act.length() + 1);
      wrong(act + " x", act.length() + 1);
      wrong(act + ";swap 5 5", act.length() + 1, 1);
    }
    Bench b = new Bench("of all that may be told").kinds(0, 1).file("a=x,y\nb=z");
    b.tape("q").x.lock();
    b.x.rule(0, 1);
    b.x.rule(1, 1);
    b.tell(0, "p");
    b.tell(2, "p");
    b.x.free(2);
    String before = b.all();
    b.throwing("wrong", ARGUMENT, () -> b.acts("unlock;plain;kind 2;any;least 3;lock r;swap 0 0"));
    b.is("state", b.all(), before).is("remembered", b.x.count(14), 6).is("why", b.x.why(), 5).is("fault", b.x.fault(), 39);
    b.is("taken back as without it", b.x.undo() + b.built(), "5a=p,y\nb=p");
  }

  // Promise 5: "NONE without one, and ahead of any"
  private static void faultOfTheLatest() {
    Bench b = new Bench("fault").file(TWO);
    b.is("ahead of any", b.x.fault(), -1).is("right", b.acts("any") + " " + b.x.fault(), "1 -1");
    b.throwing("wrong", ARGUMENT, () -> b.acts("any;x")).is("fault", b.x.fault(), 4);
    b.throwing("at 0", ARGUMENT, () -> b.acts("x")).is("fault", b.x.fault(), 0);
    b.throwing("lock", ARGUMENT, () -> b.tape("  X").x.lock()).is("no text of ACTS", b.x.fault(), 0);
    b.throwing("found", ARGUMENT, () -> b.tape("a ").x.found()).is("nor that", b.x.fault(), 0);
    b.throwing("tell", ARGUMENT, () -> b.tell(0, many("x", 61))).is("nor that", b.x.fault(), 0);
    b.x.image();
    b.throwing("at the end", ARGUMENT, () -> b.acts("any;any;")).is("back leaves it", b.x.back() + " " + b.x.fault(), "true 8");
    b.tell(0, "p");
    b.is("undo leaves it", b.x.undo() + " " + b.x.fault(), "0 8").file(TWO).is("so does a FILE", b.x.fault(), 8);
    b.is("an empty text is one without", b.acts("") + " " + b.x.fault(), "0 -1");
    b.throwing("the last byte that may be", ARGUMENT, () -> b.acts(many("any  ;", 13) + many(" ", 321) + "x")).is("fault", b.x.fault(), 399);
  }

  // "WHY (0 at first): of the latest ACT by a call, or of a text that was wrong by it, the number by which it was refused"
  private static void whyOfTheLatest() {
    Bench b = new Bench("WHY");
    b.is("at first", b.x.why(), 0).file(TWO).is("a FILE leaves it", b.x.why(), 0);
    b.throwing("free", STATE, () -> b.x.free(0)).is("why", b.x.why(), 4).throwing("tell", STATE, () -> b.tell(2, "x")).is("why", b.x.why(), 1);
    b.is("done", b.tell(0, "x") + " " + b.x.why(), "7 0").throwing("swap", STATE, () -> b.x.swap(0, 0)).is("why", b.x.why(), 5);
    b.is("done", b.x.kind(0, false) + " " + b.x.why(), "2 0").throwing("wipe", STATE, () -> b.x.wipe()).is("why", b.x.why(), 4);
    b.is("done", b.x.rule(0, 0) + " " + b.x.why(), "2 0").throwing("spread", STATE, () -> b.x.spread(0)).is("why", b.x.why(), 4);
    b.is("done", b.x.rule(1, 1) + " " + b.x.why(), "2 0").throwing("free", STATE, () -> b.x.free(2)).is("why", b.x.why(), 1);
    b.is("done", b.tape("q").x.lock() + " " + b.x.why(), "2 0").throwing("lock", STATE, () -> b.tape("q").x.lock()).is("why", b.x.why(), 7);
    b.is("done", b.x.unlock() + " " + b.x.why(), "2 0").throwing("a text", ARGUMENT, () -> b.acts("any;swap 1 1")).is("why", b.x.why(), 5);
    b.is("a right text", b.acts("any") + " " + b.x.why(), "1 0").throwing("a text", ARGUMENT, () -> b.acts("wipe")).is("why", b.x.why(), 4);
    b.is("done", b.x.kind(-1, true) + " " + b.x.why(), "2 0").throwing("free", STATE, () -> b.x.free(0)).is("why", b.x.why(), 4);
    b.is("done", b.x.swap(0, 1) + " " + b.x.why(), "7 0");
    for (int i = 0; i < 3; i++) {
      b.throwing("swap", STATE, () -> b.x.swap(1, 1)).is("why", b.x.why(), 5);
      b.is("done", (i == 0 ? b.x.spread(0) : i == 1 ? b.x.free(0) : b.x.wipe()) + " " + b.x.why(), (i == 0 ? "0" : i == 1 ? "7" : "1") + " 0");
    }
  }

  // "(a text that is wrong otherwise, or has none, leaves WHY)"; promise 7, "(WHY stays)"
  private static void whyThatStays() {
    Bench b = new Bench("WHY stays").file(TWO);
    b.throwing("swap", STATE, () -> b.x.swap(1, 1));
    b.throwing("wrong otherwise", ARGUMENT, () -> b.acts("any;x")).is("why", b.x.why(), 5);
    b.throwing("done, then wrong", ARGUMENT, () -> b.acts("swap 0 1 x")).is("why", b.x.why(), 5);
    b.throwing("too many", ARGUMENT, () -> b.acts(many("any;", 14) + "swap 0 9")).is("why", b.x.why(), 5);
    b.throwing("out of bounds", ARGUMENT, () -> b.acts("free 40")).is("why", b.x.why(), 5);
    b.is("none", b.acts("") + " " + b.x.why() + " " + b.acts("   ") + " " + b.x.why(), "0 5 0 5");
    b.is("file", b.tape(TWO).x.file() + " " + b.x.why(), "2 5").is("no image", b.x.back() + " " + b.x.why(), "false 5");
    b.throwing("undo", STATE, () -> b.x.undo()).is("why", b.x.why(), 5);
    b.throwing("kind", ARGUMENT, () -> b.x.kind(4, false)).throwing("rule", ARGUMENT, () -> b.x.rule(1, 0)).is("why", b.x.why(), 5);
    b.throwing("lock", ARGUMENT, () -> b.tape("").x.lock()).throwing("tell", ARGUMENT, () -> b.tell(9, many("x", 61))).is("why", b.x.why(), 5);
    b.throwing("would", IndexOutOfBoundsException.class, () -> b.tape("x").x.would(9)).is("why", b.x.why(), 5);
    b.is("would", b.tape("x").x.would(0) + " " + b.x.why(), "1 5").is("found", b.tape("x").x.found() + " " + b.x.why(), "1 5");
  }

  // "TOLD for a PIECE: bytes, 60 at most"; promise 12
  private static void toldOfMost() {
    Bench b = new Bench("TOLD of 60").file(TWO);
    b.is("0", b.tell(0, ""), 6).is("TOLD", b.x.piece(0, 4) + " " + b.x.piece(0, 3), "1 0").is("1", b.tell(0, "z"), 7);
    b.is("59", b.tell(0, many("z", 59)), 65).is("60", b.tell(0, many("z", 60)), 66).tapeHas("it", 0);
    String before = b.all();
    for (int bytes : new int[] {61, 62, 399, 400}) {
      b.throwing("" + bytes, ARGUMENT, () -> b.tell(0, many("z", bytes))).tapeHas("it", 0);
      b.throwing(bytes + " ahead of no such PIECE", ARGUMENT, () -> b.tell(2, many("z", bytes))).tapeHas("it", 0);
    }
    b.is("state", b.all(), before).is("remembered", b.x.count(14), 4).is("why", b.x.why(), 0);
  }

  private static String toldOf(int escaped) {
    int doubled = escaped - 60;
    return many("\\", doubled) + many("z", 60 - doubled);
  }

  // "3: BUILT would have more than 600 bytes"
  private static void builtOfMostByTell() {
    Bench b = new Bench("TELL and 600").file("a=x\nb=y\nc=" + many("z", 390));
    b.is("FILE", b.x.count(0), 400).is("tell", b.tell(0, FULL), 519);
    b.is("599", b.tell(1, toldOf(81)), 599).is("600", b.tell(1, toldOf(82)), 600).is("BUILT", b.x.at(599, true) + " " + b.x.at(600, true), "122 -1");
    refused(b, "601", 3, () -> b.tell(1, toldOf(83)));
    refused(b, "637", 3, () -> b.tell(1, FULL));
    b.is("less again", b.tell(0, ""), 480).is("twice", b.x.twice(), false);
    Bench c = of("TELL and 600, a piece at the end", 2, -1, many("y", 339) + "<p>x");
    c.is("FILE", c.x.count(0), 343).is("599", c.tell(1, many("&", 51) + "zz"), 599).is("600", c.tell(1, many("&", 51) + "zzz"), 600);
    refused(c, "601", 3, () -> c.tell(1, many("&", 51) + "zzzz"));
    refused(c, "one of the longest", 3, () -> c.tell(1, many("&", 60)));
  }

  private static void builtOfMostByFree() {
    for (int n = 351; n <= 353; n++) {
      Bench b = new Bench("FREE and 600").file("a=x\nb=y\nc=" + many("z", n));
      b.tell(2, "");
      b.tell(0, FULL);
      b.is("BUILT", b.tell(1, FULL), 248);
      if (n <= 352) {
        b.is("free", b.x.free(2), 248 + n);
      } else {
        refused(b, "601", 3, () -> b.x.free(2));
        b.throwing("by a text", ARGUMENT, () -> b.acts("any;free 2")).is("why", b.x.why(), 4);
        b.throwing("by a text", ARGUMENT, () -> b.acts("free 2")).is("why", b.x.why(), 3).is("fault", b.x.fault(), 0);
        b.is("NOW stays", b.now(2) + b.x.count(5), "248").is("another one", b.x.free(0), 129).is("then", b.x.free(2), 129 + n);
      }
    }
  }

  private static void builtOfMostBySpread() {
    for (int n = 351; n <= 353; n++) {
      Bench b = new Bench("SPREAD and 600").file("a=x\nb=x\nc=" + many("z", n));
      b.is("BUILT", b.tell(0, FULL), 129 + n);
      if (n <= 352) {
        b.is("spread", b.x.spread(0) + " " + b.x.count(5), "1 " + (248 + n));
      } else {
        refused(b, "601", 3, () -> b.x.spread(0));
        b.throwing("by a text", ARGUMENT, () -> b.acts("spread 0")).is("why", b.x.why(), 3).is("fault", b.x.fault(), 0);
      }
    }
  }

  private static void builtOfMostBySwap() {
    for (int n = 165; n <= 167; n++) {
      String raw = many("\\q", 30);
      Bench b = new Bench("SWAP and 600").file("a=" + raw + "\nb=" + raw + "\nc=x\nd=y\ne=" + many("z", n));
      b.tell(2, FULL);
      b.is("BUILT", b.tell(3, FULL), 374 + n);
      if (n <= 166) {
        b.is("swap", b.x.swap(1, 0), 434 + n);
      } else {
        refused(b, "601", 3, () -> b.x.swap(1, 0));
        b.throwing("by a text", ARGUMENT, () -> b.acts("swap 0 1")).is("why", b.x.why(), 3).is("fault", b.x.fault(), 0);
      }
    }
  }

  // "LINES: 10, 9, BACK by their escapes, and a first BLANK by BACK BLANK, if the PIECE begins its VALUE"
  private static void escapesOfLines() {
    Bench b = new Bench("escapes of LINES").file("a= x");
    String[] told = {"\n", "\t", "\\", " ", "  ", "x ", " x", "\u000b", "\u001f", "!", "\"", ",<>&", "", "n", "\b", "]", "["};
    String[] due = {"\\n", "\\t", "\\\\", "\\ ", "\\  ", "x ", "\\ x", "\u000b", "\u001f", "!", "\"", ",<>&", "", "n", "\b", "]", "["};
    for (int i = 0; i < told.length; i++) {
      b.is("bytes", b.tell(0, told[i]), 3 + due[i].length()).is("BUILT", b.built(), "a= " + due[i]).is("twice", b.x.twice(), i != 12);
    }
    Bench c = of("a PIECE that begins its VALUE", 0, 1, "a=x,y\nb=\"z\"\nc= w");
    for (int i = 0; i < 4; i++) {
      c.tell(i, " p");
    }
    c.is("BUILT", c.built(), "a=\\ p, p\nb=\" p\"\nc= \\ p").is("twice", c.x.twice(), true);
    Bench d = of("of the INNER KIND", 1, 0, "a=x");
    d.is("bytes", d.tell(0, " p"), 5).is("BUILT", d.built(), "a=\\ p").is("would", d.tape("  ").x.would(0), 3);
    Bench e = of("behind what was stripped", 0, 2, "a=\\ x<p>y");
    e.tell(0, " p");
    e.is("BUILT", e.built(), "a=\\  p<p>y");
  }

  // "in a quoted CELL each " twice; in another one, if there is a , a " or a 10, all between two ", each " twice within"
  private static void escapesOfTables() {
    String[] told = {"", "a", ",", "\"", "\n", "\"\"", "a,\"", "+", "-", "!", "#", "\t", "\u000b", " ", "\\", "<&"};
    String[] bare = {"", "a", "\",\"", "\"\"\"\"", "\"\n\"", "\"\"\"\"\"\"", "\"a,\"\"\"", "+", "-", "!", "#", "\t", "\u000b", " ", "\\", "<&"};
    String[] quoted = {"", "a", ",", "\"\"", "\n", "\"\"\"\"", "a,\"\"", "+", "-", "!", "#", "\t", "\u000b", " ", "\\", "<&"};
    Bench b = of("escapes of TABLES", 1, -1, "x,\"y\"");
    for (int i = 0; i < told.length; i++) {
      b.tell(0, told[i]);
      b.tell(1, told[i]);
      b.is("BUILT", b.built(), bare[i] + ",\"" + quoted[i] + "\"").is("twice", b.x.twice(), i > 0);
      b.is("in BUILT", b.x.piece(0, 8) + " " + b.x.piece(1, 8), bare[i].length() + " " + quoted[i].length());
      b.is("begins", b.x.piece(0, 9) + " " + b.x.piece(1, 9), "0 " + (bare[i].length() + 2));
      b.is("kept", b.x.kept(0) + " " + b.x.kept(1), i > 0 ? "true true" : "false false");
    }
  }

  // "escaped by the INNER KIND, if there is one, then by the KIND"
  private static void escapesOfTablesWithin() {
    String[] files = {"k=x,\"y\"", "\"x,\"\"y\"\"\"", "<p>x,\"y\"", "\"x,\\\"y\\\"\""};
    String[] built = {"k=\"\"\"\\n\",\"\"\"\\n\"", "\"\"\"\"\"\"\"\n\"\",\"\"\"\"\"\"\n\"\"\"", "<p>\"\"\"\n\",\"\"\"\n\"",
        "\"\\\"\\\"\\\"\\n\\\",\\\"\\\"\\\"\\n\\\"\""};
    for (int kind = 0; kind <= 3; kind++) {
      Bench b = of("TABLE within " + kind, kind, 1, files[kind]);
      b.is("texts", b.texts(), "|x|y");
      b.tell(0, "\"\n");
      b.tell(1, "\"\n");
      b.is("BUILT", b.built(), built[kind]).is("twice", b.x.twice() + " " + b.x.kept(0) + " " + b.x.kept(1), "true true true");
      b.tell(0, "p");
      b.tell(1, "p");
      b.is("BUILT", b.built(), files[kind].replace('x', 'p').replace('y', 'p')).is("twice", b.x.twice(), true);
    }
  }

  // "MARKUP: < > & by their escapes"
  private static void escapesOfMarkup() {
    Bench b = of("escapes of MARKUP", 2, -1, "<p>x");
    String[] told = {"<", ">", "&", "&lt;", ";", "=", "?", "%", "'", "\"\\,", "a b", "", "\t"};
    String[] due = {"&lt;", "&gt;", "&amp;", "&amp;lt;", ";", "=", "?", "%", "'", "\"\\,", "a b", "", "\t"};
    for (int i = 0; i < told.length; i++) {
      b.is("bytes", b.tell(0, told[i]), 3 + due[i].length()).is("BUILT", b.built(), "<p>" + due[i]).is("twice", b.x.twice(), i != 11);
    }
  }

  // "QUOTES: 10, 9, BACK, " by theirs"
  private static void escapesOfQuotes() {
    Bench b = of("escapes of QUOTES", 3, -1, "\"x\"");
    String[] told = {"\n", "\t", "\\", "\"", " ", "  x ", "\u000b", "!", "#", ":", "\\n", "", "\b", "[", "]", ",<&"};
    String[] due = {"\\n", "\\t", "\\\\", "\\\"", " ", "  x ", "\u000b", "!", "#", ":", "\\\\n", "", "\b", "[", "]", ",<&"};
    for (int i = 0; i < told.length; i++) {
      b.is("bytes", b.tell(0, told[i]), 2 + due[i].length()).is("BUILT", b.built(), "\"" + due[i] + "\"").is("twice", b.x.twice(), i != 11);
    }
  }

  // "(In a CELL of the KIND that is not quoted a PIECE of an INNER KIND: it cannot be, if there is a , a " or a 10.)"
  private static void cannotBe() {
    String[] files = {"k=a,\"k=a\"", "a,\"a\"", "<p>a,\"<p>a\"", "x\"a\",\"x\"\"a\"\"\""};
    String[] cannot = {",", "\"", "x,", "x\"y", ",\"\n"};
    for (int inner = 0; inner <= 3; inner++) {
      Bench b = of("it cannot be within " + inner, 1, inner, files[inner]);
      b.is("texts", b.texts(), "|a|a");
      for (String told : cannot) {
        refused(b, "tell", 2, () -> b.tell(0, told));
        b.is("would", b.tape(told).x.would(0), -1).is("in a quoted one", b.tape(told).x.would(1) >= told.length(), true);
      }
      for (String told : new String[] {"", "x", "+", "-", "!", "#", "\t", "\u000b", "<", "&", "\\", " "}) {
        b.is("it can", b.tape(told).x.would(0) >= told.length(), true).is("tell", b.tell(0, told) > 0, true);
      }
      boolean escaped = inner == 0 || inner == 3;
      b.is("a 10, as the INNER KIND has it", b.tape("\n").x.would(0), escaped ? 2 : -1);
    }
    Bench c = of("without an INNER KIND it can", 1, -1, "a");
    c.is("tell", c.tell(0, ",\"\n"), 6);
    Bench d = of("nor in another KIND", 0, 1, "k=a");
    d.is("tell", d.tell(0, ",\"\n"), 9).is("BUILT", d.built(), "k=\",\"\"\\n\"");
  }

  // "TELL of a PIECE (refused: 1: there is no such one; 2: it cannot be; 3: BUILT would have more than 600 bytes)"
  private static void tellRefused() {
    Bench b = new Bench("TELL refused").file(TWO);
    for (int piece : new int[] {2, -1, 39, 40, Integer.MIN_VALUE, Integer.MAX_VALUE}) {
      refused(b, "piece " + piece, 1, () -> b.tell(piece, "x"));
      b.tapeHas("it", 0);
    }
    b.is("1 is there", b.tell(1, "z"), 7);
    Bench c = of("2 ahead of 3", 1, 2, "x," + many("y", 398));
    refused(c, "2", 2, () -> c.tell(0, "," + many("&", 59)));
    refused(c, "3", 3, () -> c.tell(0, "z" + many("&", 59)));
    refused(c, "1", 1, () -> c.tell(2, "," + many("&", 59)));
    Bench d = new Bench("an empty FILE");
    refused(d, "piece 0", 1, () -> d.tell(0, "x"));
  }

  // "FREE: nothing is TOLD for it (1; 4: nothing is; 3)"
  private static void freeRefused() {
    Bench b = new Bench("FREE refused").file(TWO);
    for (int piece : new int[] {2, -1, 39, 40, Integer.MIN_VALUE, Integer.MAX_VALUE}) {
      refused(b, "piece " + piece, 1, () -> b.x.free(piece));
    }
    refused(b, "0", 4, () -> b.x.free(0));
    b.tell(0, "");
    refused(b, "another one", 4, () -> b.x.free(1));
    b.is("free", b.x.free(0), 7);
    refused(b, "again", 4, () -> b.x.free(0));
  }

  // "SPREAD: what is TOLD for it is TOLD for all PIECES with the same TEXT (1; 4; 2; 3)"
  private static void spreadRefused() {
    Bench b = new Bench("SPREAD refused").file("a=x\nb=y\nc=x");
    for (int piece : new int[] {3, -1, 39, 40, Integer.MIN_VALUE, Integer.MAX_VALUE}) {
      refused(b, "piece " + piece, 1, () -> b.x.spread(piece));
    }
    b.tell(2, "");
    refused(b, "of a LIKE one", 4, () -> b.x.spread(0));
    b.is("nothing is spread, too", b.x.spread(2) + b.built(), "1a=\nb=y\nc=");
    b.tell(1, "z");
    b.is("for no others", b.x.spread(1), 0);
    for (int i = 0; i < 2; i++) {
      String sign = i == 0 ? "," : "z";
      Bench c = of("2 ahead of 3", 1, 2, "\"x\",x," + many("y", 298));
      c.is("tell", c.tell(0, sign + many("&", 59)), 304 + 295);
      refused(c, "spread", i == 0 ? 2 : 3, () -> c.x.spread(0));
    }
    Bench d = of("it cannot be for the last", 1, 2, "\"x\",\"x\",\"x\",x");
    d.tell(1, ",");
    refused(d, "spread", 2, () -> d.x.spread(1));
    Bench g = of("it cannot be for the first", 1, 2, "x,\"x\",\"x\"");
    g.tell(2, ",");
    refused(g, "spread", 2, () -> g.x.spread(2));
    Bench e = of("it can be without that one", 1, 2, "\"x\",\"x\",\"x\",y");
    e.tell(1, ",");
    e.is("spread", e.x.spread(1), 2);
    Bench f = of("40 LIKE ones", 1, -1, many("x,", 41));
    f.tell(20, "z");
    f.is("spread", f.x.spread(20) + " " + f.x.count(4), "39 40");
  }

  // "SWAP of two: NOW of each is TOLD for the other one (1; 5: both are one; 2; 3; 8: ..., ahead of 2)"
  private static void swapRefused() {
    Bench b = new Bench("SWAP refused").file(TWO + "\nc=" + many("z", 61));
    for (int piece : new int[] {3, -1, 39, 40, Integer.MIN_VALUE, Integer.MAX_VALUE}) {
      refused(b, "second " + piece, 1, () -> b.x.swap(0, piece));
      refused(b, "first " + piece, 1, () -> b.x.swap(piece, 0));
      refused(b, "both " + piece, 1, () -> b.x.swap(piece, piece));
      refused(b, "a long one", 1, () -> b.x.swap(2, piece));
    }
    refused(b, "one", 5, () -> b.x.swap(0, 0));
    refused(b, "5 ahead of 8", 5, () -> b.x.swap(2, 2));
    refused(b, "8", 8, () -> b.x.swap(0, 2));
    b.is("done", b.x.swap(1, 0) + b.now(0) + b.now(1), "71yx");
    for (int i = 0; i < 2; i++) {
      String sign = i == 0 ? "," : "z";
      Bench c = of("2 ahead of 3", 1, 2, "x,\"" + sign + many("&", 59) + "\"," + many("y", 335));
      refused(c, "swap", i == 0 ? 2 : 3, () -> c.x.swap(0, 1));
      refused(c, "the other way", i == 0 ? 2 : 3, () -> c.x.swap(1, 0));
    }
    Bench d = of("8 ahead of 2", 1, 2, "x,\"," + many("y", 60) + "\",\"," + many("y", 59) + "\"");
    refused(d, "61 bytes", 8, () -> d.x.swap(0, 1));
    refused(d, "60 bytes", 2, () -> d.x.swap(0, 2));
  }

  // "8: one is of more than 60 bytes"
  private static void swapOfLongOnes() {
    for (int bytes = 59; bytes <= 61; bytes++) {
      Bench b = new Bench("a PIECE of " + bytes).file("a=x\nb=" + many("z", bytes));
      if (bytes <= 60) {
        b.is("swap", b.x.swap(0, 1), 6 + bytes).is("NOW", b.now(0) + b.now(1), many("z", bytes) + "x");
      } else {
        refused(b, "swap", 8, () -> b.x.swap(0, 1));
        refused(b, "the other way", 8, () -> b.x.swap(1, 0));
        b.throwing("by a text", ARGUMENT, () -> b.acts("swap 1 0")).is("why", b.x.why(), 8).is("fault", b.x.fault(), 0);
        b.tell(1, many("q", 60));
        b.is("NOW counts", b.x.swap(0, 1) + b.now(1), "66x");
      }
    }
    Bench c = new Bench("bytes of the TEXT count").file("a=x\nb=" + many("\\\\", 60) + "\nc=" + many("\\\\", 61));
    c.is("60", c.x.swap(0, 1), 4 + 123 + 124);
    refused(c, "61", 8, () -> c.x.swap(0, 2));
  }

  // "WIPE: nothing is TOLD for any (4: nothing is)"; promise 16
  private static void wipeRefused() {
    Bench b = new Bench("WIPE refused");
    refused(b, "an empty FILE", 4, () -> b.x.wipe());
    b.file(TWO);
    refused(b, "nothing is", 4, () -> b.x.wipe());
    b.tell(1, "");
    b.is("one", b.x.wipe() + b.built(), "1" + TWO);
    refused(b, "again", 4, () -> b.x.wipe());
    Bench c = of("40 PIECES", 1, -1, many("x,", 40));
    c.tell(0, "z");
    c.x.spread(0);
    c.is("wipe", c.x.wipe() + " " + c.x.count(4), "40 0");
  }

  // "THE MEMORY: the latest 12 pairs ..., the latest first"; promise 27
  private static void twelvePairs() {
    Bench b = new Bench("12 pairs").file(TWO);
    b.is("none at first", b.x.count(12) + " " + b.x.memory(0, false, 0) + " " + b.x.memory(0, true, 0), "0 -1 -1");
    for (int i = 1; i <= 14; i++) {
      b.tell(i % 2, "t" + (char) ('a' + i));
      int pairs = Math.min(i, 12);
      b.is("pairs", b.x.count(12), pairs).is("latest", b.pairText(0) + b.pairTold(0), (i % 2 == 0 ? "xt" : "yt") + (char) ('a' + i));
      b.is("oldest", b.pairTold(pairs - 1), "t" + (char) ('a' + i - pairs + 1));
      b.is("behind", b.x.memory(pairs, true, 0) + " " + b.x.memory(pairs, false, 0) + " " + b.x.memory(-1, true, 0), "-1 -1 -1");
    }
    b.is("within", b.x.memory(0, true, 1) + " " + b.x.memory(0, true, 2) + " " + b.x.memory(0, true, -1), 'a' + 14 + " -1 -1");
    b.is("of TEXT", b.x.memory(0, false, 0) + " " + b.x.memory(0, false, 1) + " " + b.x.memory(0, false, -1), "120 -1 -1");
    for (int far : new int[] {Integer.MIN_VALUE, Integer.MAX_VALUE}) {
      b.is("far", b.x.memory(far, true, 0) + " " + b.x.memory(0, true, far) + " " + b.x.memory(far, false, far), "-1 -1 -1");
    }
    b.tell(0, "");
    b.is("told nothing", b.x.memory(0, false, 0) + " " + b.x.memory(0, true, 0) + " " + b.x.piece(0, 7), "120 -1 0");
    b.tell(0, "");
    b.is("the same once more", b.pairText(0) + b.pairText(1) + b.pairTold(1) + b.pairText(2), "xxx");
    Bench c = new Bench("KNOWN of the twelfth").file(TWO);
    c.tell(0, "p");
    for (int i = 1; i <= 12; i++) {
      c.is("known", c.x.piece(0, 7), i - 1);
      c.tell(1, "q");
    }
    c.is("known no more", c.x.piece(0, 7), -1).is("of the other", c.x.piece(1, 7), 0);
    c.is("undo", c.x.undo() + " " + c.x.piece(0, 7) + " " + c.x.count(12), "7 11 12");
  }

  // "of a PIECE of more than 60 bytes no pair comes"
  private static void pairsOfLongOnes() {
    for (int bytes = 59; bytes <= 61; bytes++) {
      Bench b = new Bench("a PIECE of " + bytes).file("a=" + many("x", bytes));
      b.tell(0, "p");
      b.is("pairs", b.x.count(12), bytes <= 60 ? 1 : 0).is("TEXT", b.pairText(0), bytes <= 60 ? many("x", bytes) : "");
      b.is("known", b.x.piece(0, 7), bytes <= 60 ? 0 : -1).is("remembered all the same", b.x.count(14), 1);
      b.tell(0, "");
      b.is("again", b.x.count(12), bytes <= 60 ? 2 : 0);
    }
    Bench c = new Bench("bytes of the TEXT count").file("a=" + many("\\\\", 60) + "\nb=" + many("\\\\", 61));
    c.tell(1, "p");
    c.is("61", c.x.count(12), 0);
    c.tell(0, "p");
    c.is("60", c.x.count(12), 1);
  }

  // "what was TOLD for it by TELL", "CUT, FREE, WIPE leave it"
  private static void whatLeavesTheMemory() {
    Bench b = new Bench("what leaves THE MEMORY").file("a=x\nb=x");
    b.tell(0, "p");
    b.is("spread", b.x.spread(0) + " " + b.x.count(12), "1 1").is("free", b.x.free(0) + " " + b.x.count(12), "7 1");
    b.is("swap", b.x.swap(0, 1) + " " + b.x.count(12), "7 1").is("wipe", b.x.wipe() + " " + b.x.count(12), "2 1");
    for (int call = 0; call < 6; call++) {
      int pieces = call == 0 ? b.x.kind(0, false) : call == 1 ? b.x.kind(-1, true) : call == 2 ? b.x.rule(0, 0)
          : call == 3 ? b.x.rule(1, 1) : call == 4 ? b.tape("q").x.lock() : b.x.unlock();
      b.is("CUT " + call, pieces + " " + b.x.count(12) + b.pairText(0) + b.pairTold(0), "2 1xp");
    }
    b.is("a text", b.acts("any;kind 1;kind 0") + b.pairTold(0), "3p").file("c=x").is("a FILE", b.pairTold(b.x.piece(0, 7)), "p");
    b.throwing("refused", STATE, () -> b.tell(1, "q")).is("no pair", b.x.count(12) + b.pairTold(0), "1p");
    b.throwing("of 61", ARGUMENT, () -> b.tell(0, many("q", 61))).is("no pair", b.x.count(12) + b.pairTold(0), "1p");
    b.tape("q").x.would(0);
    b.is("would makes none", b.x.count(12), 1);
  }

  // "(8 are remembered; TELL, too; THE MEMORY goes back, too)"; promise 17
  private static void eightRemembered() {
    for (int acts = 7; acts <= 10; acts++) {
      Bench b = new Bench(acts + " ACTS").file(TWO);
      for (int i = 1; i <= acts; i++) {
        b.tell(0, "" + (char) ('a' + i));
        b.is("remembered", b.x.count(14), Math.min(i, 8));
      }
      int kept = Math.min(acts, 8);
      for (int i = 1; i <= kept; i++) {
        b.is("undo", b.x.undo() + b.now(0), kept - i + (acts - i == 0 ? "x" : "" + (char) ('a' + acts - i)));
        b.is("pairs", b.x.count(12), acts - i).is("count", b.x.count(14), kept - i);
      }
      String before = b.all();
      b.throwing("no more", STATE, () -> b.x.undo()).is("state", b.all(), before).is("why", b.x.why(), 0);
    }
    Bench c = new Bench("ACTS behind some that were taken back").file(TWO);
    c.throwing("none at first", STATE, () -> c.x.undo());
    for (int i = 0; i < 9; i++) {
      c.tell(0, "p");
    }
    c.x.undo();
    c.x.undo();
    c.tell(1, "q");
    c.is("remembered", c.x.count(14), 7).is("undo", c.x.undo() + c.now(1) + c.now(0), "6yp");
  }

  // "A FILE told, a text that is right, going back: none are remembered."
  private static void noneRemembered() {
    Bench b = new Bench("none remembered").file(TWO);
    b.x.image();
    for (int i = 0; i < 5; i++) {
      b.tell(0, "p");
      b.tell(1, "q");
      b.is("remembered", b.x.count(14), 2);
      long done = i == 0 ? b.tape(TWO).x.file() : i == 1 ? b.acts("any") : i == 2 ? b.acts("") : i == 3 ? b.acts(" ") : b.x.back() ? 1 : 0;
      b.is("call " + i, done, i == 0 ? 2 : i == 2 || i == 3 ? 0 : 1).is("none", b.x.count(14), 0).throwing("undo", STATE, () -> b.x.undo());
    }
    b.is("a FILE of none", b.tell(0, "p") + " " + b.tape("").x.file() + " " + b.x.count(14), "7 0 0");
    Bench c = two("what leaves them");
    c.throwing("a wrong text", ARGUMENT, () -> c.acts("any;x")).is("remembered", c.x.count(14), 1);
    c.throwing("a refused one in a text", ARGUMENT, () -> c.acts("any;free 9")).is("remembered", c.x.count(14), 1);
    c.throwing("a refused one", STATE, () -> c.x.free(0)).is("remembered", c.x.count(14), 1);
    c.is("back without an image", c.x.back() + " " + c.x.count(14), "false 1");
    c.x.image();
    c.is("an image", c.x.count(14), 1).is("undo", c.x.undo() + c.built(), "0" + TWO);
    c.is("back", c.x.back() + " " + c.x.count(14) + c.built(), "true 0a=x\nb=t").throwing("undo", STATE, () -> c.x.undo());
  }

  // "TAKEN BACK: ... all is as ahead of it"
  private static void takenBack() {
    for (int act = 0; act < 12; act++) {
      Bench b = new Bench("taken back " + act).kinds(0, 1).file("a=x,y\nb=x\nc=zz");
      b.tape("q").x.lock();
      b.tell(0, "p");
      b.tell(1, ",");
      String before = b.all();
      int remembered = b.x.count(14);
      doOne(b, act);
      b.is("remembered", b.x.count(14), remembered + 1).is("why", b.x.why(), 0);
      b.is("undo", b.x.undo(), remembered).is("state", b.all(), before).is("then the one ahead", b.x.undo() + b.now(1), remembered - 1 + "y");
    }
  }

  private static void takenBackLocks() {
    Bench b = new Bench("LOCKS taken back").file("a=1\nb=2\nc=3\nd=4\ne=5");
    for (String word : new String[] {"a", "b", "c", "d"}) {
      b.tape(word).x.lock();
    }
    b.x.image();
    b.x.unlock();
    b.tape("e").x.lock();
    b.is("e", b.texts(), "|1|2|3|4").is("undo", b.x.undo() + b.texts(), "5|1|2|3|4|5").is("undo", b.x.undo() + b.texts(), "4|5");
    b.throwing("one of them", STATE, () -> b.tape("a").x.lock()).is("undo", b.x.undo() + b.texts(), "3|4|5");
    b.is("back", b.x.back() + b.texts(), "true|5");
    b.x.unlock();
    b.tape("e").x.lock();
    b.is("back", b.x.back() + b.texts(), "true|5").throwing("a wrong text", ARGUMENT, () -> b.acts("unlock;lock e;x")).is("texts", b.texts(), "|5");
  }

  private static void doOne(Bench b, int act) {
    switch (act) {
      case 0 -> b.x.kind(1, false);
      case 1 -> b.x.kind(-1, true);
      case 2 -> b.x.kind(2, true);
      case 3 -> b.x.rule(0, 1);
      case 4 -> b.x.rule(1, 2);
      case 5 -> b.tape("a").x.lock();
      case 6 -> b.x.unlock();
      case 7 -> b.tell(2, "");
      case 8 -> b.x.free(1);
      case 9 -> b.x.spread(0);
      case 10 -> b.x.swap(0, 3);
      default -> b.x.wipe();
    }
  }
}
