import java.util.NoSuchElementException;

/** Files cut to a skeleton and pieces; new texts told for the pieces, the rest rebuilt to the byte. */
public final class PieceFiles {
  public static final int NONE = -1;

  private static final int FILE_MOST = 400;
  private static final int BUILT_MOST = 600;
  private static final int TOLD_MOST = 60;
  private static final int PIECES_MOST = 40;
  private static final int LEAST_MOST = 40;
  private static final int LOCKS_MOST = 4;
  private static final int WORD_MOST = 8;
  private static final int PAIRS_MOST = 12;
  private static final int PAST_MOST = 8;
  private static final int TEXT_ACTS_MOST = 14;

  private static final int LINES = 0;
  private static final int TABLE = 1;
  private static final int MARKUP = 2;
  private static final int QUOTES = 3;

  private static final int TAB = 9;
  private static final int BREAK = 10;
  private static final int BLANK = 32;
  private static final int QUOTE = 34;
  private static final int BACK = 92;

  private static final int ACT_KIND = 0;
  private static final int ACT_INNER = 1;
  private static final int ACT_PLAIN = 2;
  private static final int ACT_LETTERS = 3;
  private static final int ACT_ANY = 4;
  private static final int ACT_LEAST = 5;
  private static final int ACT_LOCK = 6;
  private static final int ACT_UNLOCK = 7;
  private static final int ACT_FREE = 8;
  private static final int ACT_SPREAD = 9;
  private static final int ACT_SWAP = 10;
  private static final int ACT_WIPE = 11;
  // Texts have no word for it: it stands behind all those that they have.
  private static final int ACT_TELL = 12;

  private static final int DONE = 0;
  private static final int NO_PIECE = 1;
  private static final int CANNOT_BE = 2;
  private static final int TOO_LONG = 3;
  private static final int NOT_TOLD = 4;
  private static final int BOTH_ONE = 5;
  private static final int LOCKS_FULL = 6;
  private static final int LOCKED_ALREADY = 7;
  private static final int PIECE_TOO_LONG = 8;

  private final Row tape;
  private final State state;
  private final State ahead;
  private final State imageState;
  private final State[] past;
  private final Cut cut;
  private final Cut again;
  private final Build build;
  private final Reader reader;
  private boolean hasImage;
  private boolean againIsFresh;
  private int pastCount;
  private int whyNow;
  private int faultPlace;

  public PieceFiles() {
    tape = new Row(FILE_MOST);
    state = new State();
    ahead = new State();
    imageState = new State();
    past = new State[PAST_MOST];
    for (int i = 0; i < past.length; i++) {
      past[i] = new State();
    }
    cut = new Cut();
    again = new Cut();
    build = new Build();
    reader = new Reader();
    faultPlace = NONE;
  }

  public int feed(int a, int b, int c, int d, int e) {
    if (tape.size() + 20 > FILE_MOST) {
      return NONE;
    }
    addFour(a);
    addFour(b);
    addFour(c);
    addFour(d);
    addFour(e);
    return tape.size();
  }

  public boolean end(int n) {
    if (n < 0 || n > tape.size()) {
      return false;
    }
    tape.cutTo(n);
    return true;
  }

  public int acts() throws IllegalArgumentException {
    ahead.copyFrom(state);
    reader.start(tape);
    int done = 0;
    int wrong = NONE;
    for (int turn = 0; turn <= TEXT_ACTS_MOST && reader.actIsDue && wrong == NONE; turn++) {
      int begin = reader.place;
      wrong = turn < TEXT_ACTS_MOST ? reader.readAct() : begin;
      if (wrong == NONE) {
        int refused = doAct(reader.act, reader.first, reader.second, reader.word);
        if (refused == DONE) {
          done++;
          wrong = reader.readBehindAct();
        } else {
          whyNow = refused;
          wrong = begin;
        }
      }
    }
    tape.cutTo(0);
    faultPlace = wrong;
    if (wrong != NONE) {
      restore(ahead);
      throw new IllegalArgumentException("the text is wrong");
    }
    whyNow = done > 0 ? DONE : whyNow;
    pastCount = 0;
    return done;
  }

  public int fault() {
    return faultPlace;
  }

  public int why() {
    return whyNow;
  }

  public int file() {
    state.file = tape.part(0, tape.size());
    tape.cutTo(0);
    pastCount = 0;
    cutAnew();
    return cut.size();
  }

  public int kind(int kind, boolean inner) throws IllegalArgumentException {
    if (kind > QUOTES || kind < (inner ? NONE : LINES)) {
      throw new IllegalArgumentException("there is no such kind");
    }
    ahead.copyFrom(state);
    finishCall(doAct(inner ? ACT_INNER : ACT_KIND, kind, 0, null));
    return cut.size();
  }

  public int rule(int what, int n) throws NoSuchElementException, IllegalArgumentException {
    if (what != 0 && what != 1) {
      throw new NoSuchElementException("there is no such rule");
    }
    if (what == 0 ? n < 0 || n > 1 : n < 1 || n > LEAST_MOST) {
      throw new IllegalArgumentException("the rule has no such number");
    }
    ahead.copyFrom(state);
    if (what == 0) {
      finishCall(doAct(n == 1 ? ACT_LETTERS : ACT_ANY, 0, 0, null));
    } else {
      finishCall(doAct(ACT_LEAST, n, 0, null));
    }
    return cut.size();
  }

  public int lock() throws IllegalArgumentException, IllegalStateException {
    Row word = takeWord();
    if (word == null) {
      throw new IllegalArgumentException("it is no word");
    }
    ahead.copyFrom(state);
    finishCall(doAct(ACT_LOCK, 0, 0, word));
    return cut.size();
  }

  public int unlock() {
    ahead.copyFrom(state);
    finishCall(doAct(ACT_UNLOCK, 0, 0, null));
    return cut.size();
  }

  public int tell(int piece) throws IllegalArgumentException, IllegalStateException {
    Row told = takeTold();
    if (told == null) {
      throw new IllegalArgumentException("more than 60 bytes");
    }
    ahead.copyFrom(state);
    finishCall(doAct(ACT_TELL, piece, 0, told));
    return build.row.size();
  }

  public int free(int piece) throws IllegalStateException {
    ahead.copyFrom(state);
    finishCall(doAct(ACT_FREE, piece, 0, null));
    return build.row.size();
  }

  public int spread(int piece) throws IllegalStateException {
    ahead.copyFrom(state);
    finishCall(doAct(ACT_SPREAD, piece, 0, null));
    return cut.likeCount(piece) - 1;
  }

  public int swap(int piece, int other) throws IllegalStateException {
    ahead.copyFrom(state);
    finishCall(doAct(ACT_SWAP, piece, other, null));
    return build.row.size();
  }

  public int wipe() throws IllegalStateException {
    int told = state.toldCount();
    ahead.copyFrom(state);
    finishCall(doAct(ACT_WIPE, 0, 0, null));
    return told;
  }

  public int undo() throws IllegalStateException {
    if (pastCount < 1 || pastCount > past.length || past[pastCount - 1] == null) {
      throw new IllegalStateException("there is none to take back");
    }
    pastCount--;
    restore(past[pastCount]);
    return pastCount;
  }

  public int piece(int piece, int what) throws IndexOutOfBoundsException, NoSuchElementException {
    Piece one = pieceOrThrow(piece);
    switch (what) {
      case 0:
        return one.begin;
      case 1:
        return one.end;
      case 2:
        return one.textSize;
      case 3:
        return nowSize(piece, one);
      case 4:
        return state.toldFor(piece) == null ? 0 : 1;
      case 5:
        return cut.likeCount(piece);
      case 6:
        return countWords(piece, one);
      case 7:
        return knownPair(one);
      case 8:
        return one.builtSize;
      case 9:
        return one.builtBegin;
      default:
        throw new NoSuchElementException("nothing such is told of a piece");
    }
  }

  public int octet(int piece, int i, boolean now) throws IndexOutOfBoundsException {
    Piece one = pieceOrThrow(piece);
    return now ? nowByte(piece, one, i) : cut.textByte(one, i);
  }

  public int origin(int piece, int i) throws IndexOutOfBoundsException {
    Piece one = pieceOrThrow(piece);
    return i >= 0 && i < one.textSize ? cut.origins.get(one.textFrom + i) : NONE;
  }

  public int key(int piece, int what) throws IndexOutOfBoundsException, NoSuchElementException {
    Piece one = pieceOrThrow(piece);
    if (what != 0 && what != 1) {
      throw new NoSuchElementException("nothing such is told of a key");
    }
    if (state.kind != LINES) {
      return NONE;
    }
    return what == 0 ? one.keyBegin : one.keySize;
  }

  public int holder(int place) {
    for (int i = 0; i < cut.size(); i++) {
      Piece one = cut.get(i);
      if (one != null && place >= one.begin && place < one.end) {
        return i;
      }
    }
    return NONE;
  }

  public int at(int i, boolean built) {
    return built ? build.row.get(i) : state.file.get(i);
  }

  public int like(int piece, int k) throws IndexOutOfBoundsException {
    pieceOrThrow(piece);
    int seen = 0;
    for (int i = 0; i < cut.size(); i++) {
      if (cut.areLike(piece, i)) {
        if (seen == k) {
          return i;
        }
        seen++;
      }
    }
    return NONE;
  }

  public int would(int piece) throws IndexOutOfBoundsException, IllegalArgumentException {
    Row told = takeTold();
    Piece one = pieceOrThrow(piece);
    if (told == null) {
      throw new IllegalArgumentException("more than 60 bytes");
    }
    return build.escape(told, one, state) ? build.escaped.size() : NONE;
  }

  public long found() throws IllegalArgumentException {
    Row word = takeWord();
    if (word == null) {
      throw new IllegalArgumentException("it is no word");
    }
    long bits = 0;
    for (int i = 0; i < cut.size(); i++) {
      if (hasWord(i, word)) {
        bits |= 1L << i;
      }
    }
    return bits;
  }

  public int memory(int k, boolean told, int i) {
    if (k < 0 || k >= state.pairs) {
      return NONE;
    }
    Pair pair = state.latest;
    for (int step = 0; step < k && pair != null; step++) {
      pair = pair.older;
    }
    if (pair == null) {
      return NONE;
    }
    return told ? pair.told.get(i) : pair.text.get(i);
  }

  public boolean kept(int piece) throws IndexOutOfBoundsException {
    Piece one = pieceOrThrow(piece);
    cutAgain();
    for (int i = 0; i < again.size(); i++) {
      Piece other = again.get(i);
      if (other != null && one.mayBeginInBuilt(other.begin) && isNow(piece, one, other)) {
        return true;
      }
    }
    return false;
  }

  public boolean twice() {
    cutAgain();
    if (again.size() != cut.size()) {
      return false;
    }
    for (int i = 0; i < cut.size(); i++) {
      Piece one = cut.get(i);
      Piece other = again.get(i);
      if (one == null || other == null || !isNow(i, one, other)) {
        return false;
      }
    }
    return true;
  }

  public void image() {
    imageState.copyFrom(state);
    hasImage = true;
  }

  public boolean back() {
    if (!hasImage) {
      return false;
    }
    restore(imageState);
    pastCount = 0;
    return true;
  }

  public int count(int what) {
    switch (what) {
      case 0:
        return state.file.size();
      case 1:
        return state.kind;
      case 2:
        return state.inner;
      case 3:
        return cut.size();
      case 4:
        return state.toldCount();
      case 5:
        return build.row.size();
      case 6:
        return state.file.size() - cut.bytesInPieces();
      case 7:
        return state.letters ? 1 : 0;
      case 8:
        return state.least;
      case 9:
        return state.lockCount;
      case 10:
        return cut.unlikeCount();
      case 11:
        return countAllWords();
      case 12:
        return state.pairs;
      case 13:
        return cut.longestText();
      case 14:
        return pastCount;
      default:
        return NONE;
    }
  }

  private void addFour(int number) {
    for (int shift = 24; shift >= 0; shift -= 8) {
      tape.add((number >>> shift) & 255);
    }
  }

  /** The tape is used up whatever it holds; null where the document's limit refuses it. */
  private Row takeTold() {
    Row told = tape.size() > TOLD_MOST ? null : tape.part(0, tape.size());
    tape.cutTo(0);
    return told;
  }

  private Row takeWord() {
    Row word = tape.isWord() ? tape.part(0, tape.size()) : null;
    tape.cutTo(0);
    return word;
  }

  private Piece pieceOrThrow(int number) {
    Piece one = cut.get(number);
    if (one == null) {
      throw new IndexOutOfBoundsException("there is no such piece");
    }
    return one;
  }

  /** The state ahead of the act has been copied by the caller. */
  private void finishCall(int refused) {
    whyNow = refused;
    if (refused == TOO_LONG) {
      restore(ahead);
    }
    if (refused != DONE) {
      throw new IllegalStateException("the act is refused");
    }
    rememberAhead();
  }

  private void rememberAhead() {
    if (pastCount >= past.length) {
      forgetOldest();
    }
    if (pastCount >= 0 && pastCount < past.length && past[pastCount] != null) {
      past[pastCount].copyFrom(ahead);
      pastCount++;
    }
  }

  /** Its object is used again for the newest. */
  private void forgetOldest() {
    int last = past.length - 1;
    if (last < 0) {
      return;
    }
    State oldest = past[0];
    for (int i = 0; i < last; i++) {
      past[i] = past[i + 1];
    }
    past[last] = oldest;
    pastCount = last;
  }

  /** Answers the number by which the act is refused; of refusals TOO_LONG alone leaves a state to be restored. */
  private int doAct(int act, int first, int second, Row word) {
    againIsFresh = false;
    switch (act) {
      case ACT_KIND:
        state.kind = first;
        return cutAnew();
      case ACT_INNER:
        state.inner = first;
        return cutAnew();
      case ACT_PLAIN:
        state.inner = NONE;
        return cutAnew();
      case ACT_LETTERS:
        state.letters = true;
        return cutAnew();
      case ACT_ANY:
        state.letters = false;
        return cutAnew();
      case ACT_LEAST:
        state.least = first;
        return cutAnew();
      case ACT_LOCK:
        int refused = state.addLock(word);
        return refused == DONE ? cutAnew() : refused;
      case ACT_UNLOCK:
        state.lockCount = 0;
        return cutAnew();
      case ACT_FREE:
        return freePiece(first);
      case ACT_SPREAD:
        return spreadPiece(first);
      case ACT_SWAP:
        return swapPieces(first, second);
      case ACT_WIPE:
        return wipePieces();
      default:
        return tellPiece(first, word);
    }
  }

  private int cutAnew() {
    againIsFresh = false;
    state.forgetTold();
    cut.find(state.file, state);
    build.make(state, cut);
    return DONE;
  }

  private void restore(State from) {
    againIsFresh = false;
    state.copyFrom(from);
    cut.find(state.file, state);
    build.make(state, cut);
  }

  private int tellPiece(int number, Row told) {
    Piece one = cut.get(number);
    if (one == null || told == null) {
      return NO_PIECE;
    }
    if (!build.escape(told, one, state)) {
      return CANNOT_BE;
    }
    state.setTold(number, told);
    if (!build.make(state, cut)) {
      return TOO_LONG;
    }
    if (one.textSize <= TOLD_MOST) {
      state.addPair(cut.text.part(one.textFrom, one.textSize), told);
    }
    return DONE;
  }

  private int freePiece(int number) {
    if (cut.get(number) == null) {
      return NO_PIECE;
    }
    if (state.toldFor(number) == null) {
      return NOT_TOLD;
    }
    state.setTold(number, null);
    return build.make(state, cut) ? DONE : TOO_LONG;
  }

  private int spreadPiece(int number) {
    if (cut.get(number) == null) {
      return NO_PIECE;
    }
    Row told = state.toldFor(number);
    if (told == null) {
      return NOT_TOLD;
    }
    for (int i = 0; i < cut.size(); i++) {
      if (cut.areLike(number, i) && !build.escape(told, cut.get(i), state)) {
        return CANNOT_BE;
      }
    }
    for (int i = 0; i < cut.size(); i++) {
      if (cut.areLike(number, i)) {
        state.setTold(i, told);
      }
    }
    return build.make(state, cut) ? DONE : TOO_LONG;
  }

  private int swapPieces(int number, int otherNumber) {
    Piece one = cut.get(number);
    Piece other = cut.get(otherNumber);
    if (one == null || other == null) {
      return NO_PIECE;
    }
    if (number == otherNumber) {
      return BOTH_ONE;
    }
    if (nowSize(number, one) > TOLD_MOST || nowSize(otherNumber, other) > TOLD_MOST) {
      return PIECE_TOO_LONG;
    }
    Row now = copyOfNow(number, one);
    Row otherNow = copyOfNow(otherNumber, other);
    if (!build.escape(otherNow, one, state) || !build.escape(now, other, state)) {
      return CANNOT_BE;
    }
    state.setTold(number, otherNow);
    state.setTold(otherNumber, now);
    return build.make(state, cut) ? DONE : TOO_LONG;
  }

  private int wipePieces() {
    if (state.toldCount() == 0) {
      return NOT_TOLD;
    }
    state.forgetTold();
    return build.make(state, cut) ? DONE : TOO_LONG;
  }

  private void cutAgain() {
    if (!againIsFresh) {
      again.find(build.row, state);
      againIsFresh = true;
    }
  }

  private int nowSize(int number, Piece one) {
    Row told = state.toldFor(number);
    return told == null ? one.textSize : told.size();
  }

  private int nowByte(int number, Piece one, int i) {
    Row told = state.toldFor(number);
    return told == null ? cut.textByte(one, i) : told.get(i);
  }

  /** Rows told are never changed, so that one may stand for several pieces. */
  private Row copyOfNow(int number, Piece one) {
    Row told = state.toldFor(number);
    return told == null ? cut.text.part(one.textFrom, one.textSize) : told;
  }

  private boolean isNow(int number, Piece one, Piece other) {
    Row told = state.toldFor(number);
    if (told == null) {
      return one.textSize == other.textSize
          && cut.text.isSame(one.textFrom, again.text, other.textFrom, one.textSize);
    }
    return told.size() == other.textSize && told.isSame(0, again.text, other.textFrom, told.size());
  }

  private int countWords(int number, Piece one) {
    Row told = state.toldFor(number);
    return told == null ? cut.text.countWords(one.textFrom, one.textSize) : told.countWords(0, told.size());
  }

  private int countAllWords() {
    int words = 0;
    for (int i = 0; i < cut.size(); i++) {
      Piece one = cut.get(i);
      if (one != null) {
        words += countWords(i, one);
      }
    }
    return words;
  }

  private boolean hasWord(int number, Row word) {
    Piece one = cut.get(number);
    if (one == null) {
      return false;
    }
    Row told = state.toldFor(number);
    return told == null ? cut.text.hasWord(one.textFrom, one.textSize, word) : told.hasWord(0, told.size(), word);
  }

  private int knownPair(Piece one) {
    Pair pair = state.latest;
    for (int i = 0; i < state.pairs && pair != null; i++) {
      if (pair.text.size() == one.textSize && pair.text.isSame(0, cut.text, one.textFrom, one.textSize)) {
        return i;
      }
      pair = pair.older;
    }
    return NONE;
  }

  private static boolean isLetter(int sign) {
    return sign >= 'a' && sign <= 'z' || sign >= 'A' && sign <= 'Z';
  }

  private static int smallLetter(int sign) {
    return sign >= 'A' && sign <= 'Z' ? sign + 32 : sign;
  }

  /** Bytes up to a number that is set when the row is made; a look outside answers NONE. */
  private static final class Row {
    private final int[] bytes;
    private int size;

    Row(int most) {
      bytes = new int[most > 0 ? most : 0];
    }

    int size() {
      return size;
    }

    int get(int i) {
      return i >= 0 && i < size && i < bytes.length ? bytes[i] : NONE;
    }

    boolean add(int sign) {
      if (size < 0 || size >= bytes.length) {
        return false;
      }
      bytes[size] = sign;
      size++;
      return true;
    }

    boolean addPart(Row from, int begin, int end) {
      boolean fits = true;
      for (int i = begin; i < end && fits; i++) {
        fits = add(from.get(i));
      }
      return fits;
    }

    void cutTo(int n) {
      if (n >= 0 && n < size) {
        size = n;
      }
    }

    Row part(int begin, int many) {
      Row row = new Row(many);
      row.addPart(this, begin, begin + many);
      return row;
    }

    boolean isSame(int begin, Row other, int otherBegin, int many) {
      for (int i = 0; i < many; i++) {
        if (get(begin + i) != other.get(otherBegin + i)) {
          return false;
        }
      }
      return true;
    }

    /** Where the next such byte is, or the end of the bytes looked at. */
    int next(int sign, int begin, int end) {
      for (int i = begin; i >= 0 && i < end && i < bytes.length; i++) {
        if (bytes[i] == sign) {
          return i;
        }
      }
      return end;
    }

    int behindBlanks(int begin, int end) {
      for (int i = begin; i >= 0 && i < end && i < bytes.length; i++) {
        if (bytes[i] != BLANK) {
          return i;
        }
      }
      return end;
    }

    int behindSpace(int begin, int end) {
      for (int i = begin; i >= 0 && i < end && i < bytes.length; i++) {
        if (bytes[i] != BLANK && bytes[i] != BREAK) {
          return i;
        }
      }
      return end;
    }

    int cellEnd(int begin) {
      for (int i = begin; i >= 0 && i < size && i < bytes.length; i++) {
        if (bytes[i] == ',' || bytes[i] == BREAK) {
          return i;
        }
      }
      return size;
    }

    /** Where the " is that closes a quoted cell: the first that is followed by no other one, two by two. */
    int cellQuoteEnd(int begin) {
      boolean mayClose = false;
      for (int i = begin; i >= 0 && i < size && i < bytes.length; i++) {
        if (bytes[i] == QUOTE) {
          mayClose = !mayClose;
        } else if (mayClose) {
          return i - 1;
        }
      }
      return mayClose ? size - 1 : size;
    }

    /** Where the " is that closes quotes; a BACK takes the byte behind it along. */
    int quoteEnd(int begin) {
      boolean escaped = false;
      for (int i = begin; i >= 0 && i < size && i < bytes.length; i++) {
        if (bytes[i] == QUOTE && !escaped) {
          return i;
        }
        escaped = bytes[i] == BACK && !escaped;
      }
      return size;
    }

    boolean breaksCell() {
      for (int i = 0; i < size && i < bytes.length; i++) {
        if (bytes[i] == ',' || bytes[i] == QUOTE || bytes[i] == BREAK) {
          return true;
        }
      }
      return false;
    }

    boolean isWord() {
      for (int i = 0; i < size; i++) {
        if (get(i) < 'a' || get(i) > 'z') {
          return false;
        }
      }
      return size >= 1 && size <= WORD_MOST;
    }

    boolean hasLetter(int begin) {
      for (int i = begin; i < size; i++) {
        if (isLetter(get(i))) {
          return true;
        }
      }
      return false;
    }

    int countWords(int begin, int many) {
      int words = 0;
      boolean within = false;
      for (int i = begin; i < begin + many; i++) {
        boolean letter = isLetter(get(i));
        if (letter && !within) {
          words++;
        }
        within = letter;
      }
      return words;
    }

    /** Also within longer rows of letters: a search is for letters side by side, not for WORDS. */
    boolean hasWord(int begin, int many, Row word) {
      for (int i = begin; i <= begin + many - word.size(); i++) {
        if (hasSmall(i, word)) {
          return true;
        }
      }
      return false;
    }

    private boolean hasSmall(int begin, Row word) {
      for (int i = 0; i < word.size(); i++) {
        if (smallLetter(get(begin + i)) != word.get(i)) {
          return false;
        }
      }
      return true;
    }

    boolean isText(int begin, int many, String text) {
      if (many != text.length()) {
        return false;
      }
      for (int i = 0; i < many && i < text.length(); i++) {
        if (get(begin + i) != text.charAt(i)) {
          return false;
        }
      }
      return true;
    }
  }

  /** A pair of the memory; the chain is never changed, so that states share it. */
  private static final class Pair {
    final Row text;
    final Row told;
    final Pair older;

    Pair(Row text, Row told, Pair older) {
      this.text = text;
      this.told = told;
      this.older = older;
    }
  }

  /** All that acts change and that is taken back or kept in the image; its rows are never changed, only replaced. */
  private static final class State {
    Row file;
    int kind;
    int inner;
    boolean letters;
    int least;
    int lockCount;
    Pair latest;
    int pairs;
    private final Row[] locks;
    private final Row[] told;

    State() {
      file = new Row(0);
      kind = LINES;
      inner = NONE;
      least = 1;
      locks = new Row[LOCKS_MOST];
      told = new Row[PIECES_MOST];
    }

    void copyFrom(State other) {
      file = other.file;
      kind = other.kind;
      inner = other.inner;
      letters = other.letters;
      least = other.least;
      lockCount = other.lockCount;
      latest = other.latest;
      pairs = other.pairs;
      for (int i = 0; i < locks.length && i < other.locks.length; i++) {
        locks[i] = other.locks[i];
      }
      for (int i = 0; i < told.length && i < other.told.length; i++) {
        told[i] = other.told[i];
      }
    }

    Row toldFor(int number) {
      return number >= 0 && number < told.length ? told[number] : null;
    }

    void setTold(int number, Row row) {
      if (number >= 0 && number < told.length) {
        told[number] = row;
      }
    }

    void forgetTold() {
      for (int i = 0; i < told.length; i++) {
        told[i] = null;
      }
    }

    int toldCount() {
      int many = 0;
      for (int i = 0; i < told.length; i++) {
        if (told[i] != null) {
          many++;
        }
      }
      return many;
    }

    void addPair(Row text, Row row) {
      latest = new Pair(text, row, latest);
      pairs = Math.min(pairs + 1, PAIRS_MOST);
    }

    int addLock(Row word) {
      if (lockCount < 0 || lockCount >= locks.length) {
        return LOCKS_FULL;
      }
      for (int i = 0; i < lockCount; i++) {
        Row one = locks[i];
        if (one != null && word != null && one.size() == word.size() && one.isSame(0, word, 0, one.size())) {
          return LOCKED_ALREADY;
        }
      }
      locks[lockCount] = word;
      lockCount++;
      return DONE;
    }

    boolean isLocked(Scan line) {
      for (int i = 0; i < lockCount && i < locks.length; i++) {
        Row one = locks[i];
        if (one != null && one.size() <= line.keySize && one.isSame(0, line.row, line.keyBegin, one.size())) {
          return true;
        }
      }
      return false;
    }
  }

  /** Finds what one kind says of a row: its pieces one behind another, and what their bytes mean. */
  private static final class Scan {
    Row row;
    int begin;
    int end;
    boolean quoted;
    int keyBegin;
    int keySize;
    int meaning;
    int width;
    private int kindNow;
    private int place;

    Scan() {
      row = new Row(0);
    }

    void start(Row newRow, int newKind) {
      row = newRow;
      kindNow = newKind;
      place = 0;
      quoted = false;
      keyBegin = 0;
      keySize = 0;
    }

    boolean next() {
      // Each turn goes on by one byte at least, and no row has more than BUILT has.
      for (int turn = 0; turn <= BUILT_MOST && place < row.size(); turn++) {
        switch (kindNow) {
          case LINES:
            tryLine();
            break;
          case TABLE:
            tryCell();
            break;
          case MARKUP:
            tryMarkup();
            break;
          default:
            tryQuotes();
            break;
        }
        if (begin < end) {
          return true;
        }
      }
      return false;
    }

    private void tryLine() {
      int first = place;
      int stop = row.next(BREAK, first, row.size());
      place = stop + 1;
      int sign = row.next('=', first, stop);
      keyBegin = row.behindBlanks(first, stop);
      begin = stop;
      end = stop;
      if (sign == stop || row.get(keyBegin) == '#') {
        return;
      }
      keySize = sign - keyBegin;
      for (int i = sign - 1; i >= keyBegin && row.get(i) == BLANK; i--) {
        keySize--;
      }
      begin = row.behindBlanks(sign + 1, stop);
    }

    private void tryCell() {
      quoted = row.get(place) == QUOTE;
      begin = quoted ? place + 1 : place;
      end = quoted ? row.cellQuoteEnd(begin) : row.cellEnd(begin);
      place = quoted ? row.cellEnd(end + 1) + 1 : end + 1;
    }

    private void tryMarkup() {
      begin = place;
      end = place;
      if (row.get(place) == '<') {
        place = row.next('>', place, row.size()) + 1;
        return;
      }
      int stop = row.next('<', place, row.size());
      begin = row.behindSpace(place, stop);
      end = stop;
      for (int i = stop - 1; i > begin && (row.get(i) == BLANK || row.get(i) == BREAK); i--) {
        end = i;
      }
      place = stop;
    }

    private void tryQuotes() {
      begin = row.next(QUOTE, place, row.size()) + 1;
      end = row.quoteEnd(begin);
      place = end + 1;
      if (row.get(row.behindSpace(place, row.size())) == ':') {
        end = begin;
      }
    }

    /** What the piece means at a place, and how many of its bytes mean it. */
    void read(int i) {
      meaning = row.get(i);
      width = 1;
      if (kindNow == MARKUP) {
        if (meaning == '&') {
          readMarkup(i);
        }
      } else if (kindNow == TABLE) {
        // All " of a quoted cell's piece stand two by two, or they would have closed it.
        width = quoted && meaning == QUOTE ? 2 : 1;
      } else if (meaning == BACK && i + 1 < end) {
        readBack(row.get(i + 1));
      }
    }

    private void readMarkup(int i) {
      int first = row.get(i + 1);
      if (first == 'a') {
        if (i + 4 < end && row.get(i + 2) == 'm' && row.get(i + 3) == 'p' && row.get(i + 4) == ';') {
          width = 5;
        }
      } else if ((first == 'l' || first == 'g') && i + 3 < end && row.get(i + 2) == 't' && row.get(i + 3) == ';') {
        meaning = first == 'l' ? '<' : '>';
        width = 4;
      }
    }

    private void readBack(int sign) {
      int own = kindNow == LINES ? BLANK : QUOTE;
      if (sign == 'n' || sign == 't' || sign == BACK || sign == own) {
        meaning = sign == 'n' ? BREAK : sign == 't' ? TAB : sign;
        width = 2;
      }
    }
  }

  private static final class Piece {
    int begin;
    int end;
    int textFrom;
    int textSize;
    int keyBegin;
    int keySize;
    boolean quoted;
    boolean quotedWithin;
    boolean beginsValue;
    int builtBegin;
    int builtSize;
    int quoteWidth;

    boolean mayBeginInBuilt(int place) {
      return place == builtBegin || quoteWidth > 0 && place == builtBegin + quoteWidth;
    }
  }

  /** The pieces of a row by the kinds and rules of a state. */
  private static final class Cut {
    final Row text;
    final Row origins;
    private final Piece[] pieces;
    private int many;
    private final Scan outer;
    private final Scan within;
    private final Row middle;
    private final Row middleBegins;

    Cut() {
      text = new Row(BUILT_MOST);
      origins = new Row(BUILT_MOST);
      middle = new Row(BUILT_MOST);
      middleBegins = new Row(BUILT_MOST);
      outer = new Scan();
      within = new Scan();
      pieces = new Piece[PIECES_MOST];
      for (int i = 0; i < pieces.length; i++) {
        pieces[i] = new Piece();
      }
    }

    int size() {
      return many;
    }

    Piece get(int number) {
      return number >= 0 && number < many && number < pieces.length ? pieces[number] : null;
    }

    void find(Row row, State rules) {
      many = 0;
      text.cutTo(0);
      origins.cutTo(0);
      outer.start(row, rules.kind);
      for (int turn = 0; turn <= BUILT_MOST && many < pieces.length && outer.next(); turn++) {
        if (rules.kind != LINES || !rules.isLocked(outer)) {
          if (rules.inner == NONE) {
            int from = text.size();
            readOuter(text, origins);
            settle(rules, from, outer.begin, outer.end);
          } else {
            middle.cutTo(0);
            middleBegins.cutTo(0);
            readOuter(middle, middleBegins);
            takeWithin(rules);
          }
        }
      }
    }

    private void readOuter(Row meanings, Row begins) {
      for (int i = outer.begin; i < outer.end; i += Math.max(1, outer.width)) {
        outer.read(i);
        meanings.add(outer.meaning);
        begins.add(i);
      }
    }

    private void takeWithin(State rules) {
      within.start(middle, rules.inner);
      for (int turn = 0; turn <= BUILT_MOST && many < pieces.length && within.next(); turn++) {
        int from = text.size();
        for (int i = within.begin; i < within.end; i += Math.max(1, within.width)) {
          within.read(i);
          text.add(within.meaning);
          origins.add(middleBegins.get(i));
        }
        // What means a byte ends where what means the next one begins.
        int end = within.end < middle.size() ? middleBegins.get(within.end) : outer.end;
        settle(rules, from, middleBegins.get(within.begin), end);
      }
    }

    /** The text read last, from a place on, becomes a piece, or goes again if the rules say so. */
    private void settle(State rules, int from, int begin, int end) {
      Piece one = many >= 0 && many < pieces.length ? pieces[many] : null;
      int size = text.size() - from;
      if (one == null || size < rules.least || rules.letters && !text.hasLetter(from)) {
        text.cutTo(from);
        origins.cutTo(from);
        return;
      }
      many++;
      one.begin = begin;
      one.end = end;
      one.textFrom = from;
      one.textSize = size;
      one.keyBegin = outer.keyBegin;
      one.keySize = outer.keySize;
      one.quoted = outer.quoted;
      one.quotedWithin = rules.inner == TABLE && within.quoted;
      one.beginsValue = begin == outer.begin;
    }

    int textByte(Piece one, int i) {
      return i >= 0 && i < one.textSize ? text.get(one.textFrom + i) : NONE;
    }

    boolean areLike(int number, int otherNumber) {
      Piece one = get(number);
      Piece other = get(otherNumber);
      return one != null && other != null && one.textSize == other.textSize
          && text.isSame(one.textFrom, text, other.textFrom, one.textSize);
    }

    int likeCount(int number) {
      int likes = 0;
      for (int i = 0; i < many; i++) {
        if (areLike(number, i)) {
          likes++;
        }
      }
      return likes;
    }

    int unlikeCount() {
      int unlike = 0;
      for (int i = 0; i < many; i++) {
        if (!hasLikeAhead(i)) {
          unlike++;
        }
      }
      return unlike;
    }

    private boolean hasLikeAhead(int number) {
      for (int i = 0; i < number; i++) {
        if (areLike(number, i)) {
          return true;
        }
      }
      return false;
    }

    int longestText() {
      int longest = 0;
      for (int i = 0; i < many; i++) {
        Piece one = get(i);
        longest = one == null ? longest : Math.max(longest, one.textSize);
      }
      return longest;
    }

    int bytesInPieces() {
      int bytes = 0;
      for (int i = 0; i < many; i++) {
        Piece one = get(i);
        bytes += one == null ? 0 : one.end - one.begin;
      }
      return bytes;
    }
  }

  /** Builds the file anew with what is told in place of its pieces. */
  private static final class Build {
    final Row row;
    final Row escaped;
    private final Row middle;
    private int quoteWidth;

    Build() {
      row = new Row(BUILT_MOST);
      // A byte told is nine bytes at most: an & that is escaped by MARKUP twice.
      escaped = new Row(TOLD_MOST * 9);
      middle = new Row(TOLD_MOST * 9);
    }

    /** False if it would be too long: then the row is not whole. */
    boolean make(State state, Cut cut) {
      row.cutTo(0);
      int place = 0;
      boolean fits = true;
      for (int i = 0; i < cut.size() && fits; i++) {
        Piece one = cut.get(i);
        if (one == null) {
          break;
        }
        fits = row.addPart(state.file, place, one.begin);
        place = one.end;
        one.builtBegin = row.size();
        Row told = state.toldFor(i);
        if (told == null) {
          fits &= row.addPart(state.file, one.begin, one.end);
        } else {
          fits &= escape(told, one, state) && row.addPart(escaped, 0, escaped.size());
        }
        one.builtSize = row.size() - one.builtBegin;
        one.quoteWidth = told == null ? 0 : quoteWidth;
      }
      return fits && row.addPart(state.file, place, state.file.size());
    }

    /** False if it cannot be; else what is told stands in the row of the escaped. */
    boolean escape(Row told, Piece one, State state) {
      if (one == null) {
        return false;
      }
      quoteWidth = 0;
      middle.cutTo(0);
      escaped.cutTo(0);
      boolean bare = state.kind == TABLE && !one.quoted;
      boolean bareWithin = state.inner == TABLE && !one.quotedWithin;
      if (bareWithin && told.breaksCell()) {
        middle.add(QUOTE);
        addEscaped(told, middle, TABLE, false);
        middle.add(QUOTE);
        quoteWidth = state.kind == TABLE || state.kind == QUOTES ? 2 : 1;
      } else {
        addEscaped(told, middle, bareWithin ? NONE : state.inner, true);
      }
      if (!bare) {
        addEscaped(middle, escaped, state.kind, one.beginsValue);
        return true;
      }
      if (!middle.breaksCell()) {
        return escaped.addPart(middle, 0, middle.size());
      }
      quoteWidth = 1;
      escaped.add(QUOTE);
      addEscaped(middle, escaped, TABLE, false);
      escaped.add(QUOTE);
      return state.inner == NONE;
    }

    private static void addEscaped(Row from, Row to, int kind, boolean beginsValue) {
      for (int i = 0; i < from.size(); i++) {
        int sign = from.get(i);
        switch (kind) {
          case LINES:
            addInLine(sign, to, beginsValue && i == 0);
            break;
          case TABLE:
            addDoubled(sign, to);
            break;
          case MARKUP:
            addInMarkup(sign, to);
            break;
          case QUOTES:
            addInQuotes(sign, to);
            break;
          default:
            to.add(sign);
            break;
        }
      }
    }

    private static void addInLine(int sign, Row to, boolean first) {
      if (sign == BACK || sign == BREAK || sign == TAB || sign == BLANK && first) {
        to.add(BACK);
      }
      to.add(sign == BREAK ? 'n' : sign == TAB ? 't' : sign);
    }

    private static void addDoubled(int sign, Row to) {
      if (sign == QUOTE) {
        to.add(QUOTE);
      }
      to.add(sign);
    }

    private static void addInQuotes(int sign, Row to) {
      if (sign == BACK || sign == BREAK || sign == TAB || sign == QUOTE) {
        to.add(BACK);
      }
      to.add(sign == BREAK ? 'n' : sign == TAB ? 't' : sign);
    }

    private static void addInMarkup(int sign, Row to) {
      if (sign != '<' && sign != '>' && sign != '&') {
        to.add(sign);
        return;
      }
      to.add('&');
      if (sign == '&') {
        to.add('a');
        to.add('m');
        to.add('p');
      } else {
        to.add(sign == '<' ? 'l' : 'g');
        to.add('t');
      }
      to.add(';');
    }
  }

  /** Reads a text of acts, one act a call; a reading answers where it is wrong, NONE if it is right. */
  private static final class Reader {
    boolean actIsDue;
    int place;
    int act;
    int first;
    int second;
    Row word;
    private int number;
    private Row text;

    Reader() {
      text = new Row(0);
    }

    void start(Row newText) {
      text = newText;
      place = text.behindBlanks(0, text.size());
      actIsDue = place < text.size();
    }

    int readBehindAct() {
      place = text.behindBlanks(place, text.size());
      actIsDue = place < text.size();
      if (actIsDue && text.get(place) != ';') {
        return place;
      }
      place = text.behindBlanks(place + 1, text.size());
      return NONE;
    }

    int readAct() {
      int begin = place;
      place = lettersEnd();
      act = actNamed(begin, place - begin);
      switch (act) {
        case NONE:
          return begin;
        case ACT_KIND:
        case ACT_INNER:
          return readFirst(LINES, QUOTES);
        case ACT_LEAST:
          return readFirst(1, LEAST_MOST);
        case ACT_FREE:
        case ACT_SPREAD:
          return readFirst(0, PIECES_MOST - 1);
        case ACT_SWAP:
          int wrong = readFirst(0, PIECES_MOST - 1);
          return wrong == NONE ? readSecond() : wrong;
        case ACT_LOCK:
          return readWord();
        default:
          return NONE;
      }
    }

    private int lettersEnd() {
      for (int i = place; i < text.size(); i++) {
        if (text.get(i) < 'a' || text.get(i) > 'z') {
          return i;
        }
      }
      return text.size();
    }

    private int actNamed(int begin, int many) {
      for (int i = ACT_KIND; i <= ACT_WIPE; i++) {
        if (text.isText(begin, many, nameOf(i))) {
          return i;
        }
      }
      return NONE;
    }

    private static String nameOf(int act) {
      switch (act) {
        case ACT_KIND:
          return "kind";
        case ACT_INNER:
          return "inner";
        case ACT_PLAIN:
          return "plain";
        case ACT_LETTERS:
          return "letters";
        case ACT_ANY:
          return "any";
        case ACT_LEAST:
          return "least";
        case ACT_LOCK:
          return "lock";
        case ACT_UNLOCK:
          return "unlock";
        case ACT_FREE:
          return "free";
        case ACT_SPREAD:
          return "spread";
        case ACT_SWAP:
          return "swap";
        default:
          return "wipe";
      }
    }

    private int readFirst(int least, int most) {
      int wrong = readNumber(least, most);
      first = number;
      return wrong;
    }

    private int readSecond() {
      int wrong = readNumber(0, PIECES_MOST - 1);
      second = number;
      return wrong;
    }

    private int readNumber(int least, int most) {
      int begin = text.behindBlanks(place, text.size());
      int digits = 0;
      number = 0;
      for (int i = begin; i < text.size() && text.get(i) >= '0' && text.get(i) <= '9'; i++) {
        digits++;
        // A third digit is wrong whatever it is: so the number cannot grow beyond an int.
        number = digits > 2 ? number : number * 10 + text.get(i) - '0';
      }
      place = begin + digits;
      return digits >= 1 && digits <= 2 && number >= least && number <= most ? NONE : begin;
    }

    private int readWord() {
      int begin = text.behindBlanks(place, text.size());
      place = begin;
      place = lettersEnd();
      int many = place - begin;
      if (many < 1 || many > WORD_MOST) {
        return begin;
      }
      word = text.part(begin, many);
      return NONE;
    }
  }
}
