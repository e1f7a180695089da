import java.util.NoSuchElementException;

/**
 * Threads that go by turns. A thread of the document is a Strand here and an OBJECT is a Sync,
 * so that neither is taken for a class of the Java library.
 */
public final class TurnKeeper {
  private static final int SYNCS = 24;
  private static final int STRANDS = 8;
  private static final int NOBODY = -1;
  private static final long NONE = 1L << 40;

  private static final int TAPE_MOST = 1600;
  private static final int FED = 20;
  private static final int CODE_MOST = 60;
  /** Ints that one INSTRUCTION takes: its word and up to three numbers. */
  private static final int CODE_WIDTH = 4;
  private static final int DIGITS_MOST = 9;

  private static final int ABSENT = 0;
  private static final int READY = 1;
  private static final int WAITING = 2;
  private static final int SLEEPING = 3;
  private static final int ENDED = 4;
  private static final int FAILED = 5;

  private static final int NOT_ITS_OWN = 1;
  private static final int NO_SUCH_SYNC = 2;
  private static final int NO_READERS = 3;

  private static final int SIGNALLED = 1;
  private static final int INTERRUPTED = -2;
  private static final int NOTHING_TO_POLL = -1;

  private static final int KIND_NONE = -1;
  private static final int KIND_LOCK = 0;
  private static final int KIND_SEMAPHORE = 1;
  private static final int KIND_LATCH = 2;
  private static final int KIND_BARRIER = 3;
  private static final int KIND_QUEUE = 4;
  private static final int KIND_CELL = 5;
  private static final int KIND_FUTURE = 6;
  private static final int KIND_GATE = 7;

  private static final int QUEUE_MOST = 100;
  private static final int RUN_MOST = 4000;
  private static final int HOW_DRAWN = 0;
  private static final int HOW_IN_TURN = 2;
  private static final int LOOK_MOST = 5;
  private static final int SYNC_MOST = 4;
  private static final int COUNT_KINDS = 10;

  private static final Word[] WORDS = Word.values();

  private final Tape tape = new Tape();
  private final Sync[] syncs = new Sync[SYNCS];
  private final Strand[] strands = new Strand[STRANDS];
  private long clock;
  private long steps;
  /** Who did the latest step; the last number at first, so that the first turn comes to 0. */
  private int latest = STRANDS - 1;

  public TurnKeeper() {
    for (int t = 0; t < STRANDS; t++) {
      strands[t] = new Strand(t);
    }
  }

  public int feed(int a, int b, int c, int d, int e) throws IndexOutOfBoundsException {
    if (tape.length + FED > TAPE_MOST) {
      throw new IndexOutOfBoundsException("THE TAPE has no room");
    }
    tape.append(a);
    tape.append(b);
    tape.append(c);
    tape.append(d);
    tape.append(e);
    return tape.length;
  }

  public int end(int n) throws IllegalArgumentException {
    if (n < 0 || n > tape.length) {
      throw new IllegalArgumentException("n is out of range");
    }
    tape.length = n;
    return n;
  }

  public int make(int kind, int a) throws IllegalArgumentException, IllegalStateException {
    if (!fits(kind, a)) {
      throw new IllegalArgumentException("kind or a is out of range");
    }
    int free = leastFree();
    if (free < 0 || free >= syncs.length) {
      throw new IllegalStateException("full");
    }
    syncs[free] = built(free, kind, a);
    return free;
  }

  public int drop(int o) throws NoSuchElementException, IllegalStateException {
    if (o < 0 || o >= syncs.length || syncs[o] == null) {
      throw new NoSuchElementException("no such OBJECT");
    }
    if (syncs[o].hasStrands()) {
      throw new IllegalStateException("a THREAD is in a row of it");
    }
    syncs[o] = null;
    return howManySyncs();
  }

  public int thread() throws IllegalStateException, UnsupportedOperationException {
    boolean whole = tape.read();
    tape.length = 0;
    if (!whole) {
      throw new UnsupportedOperationException("the PROGRAM is broken");
    }
    for (int t = 0; t < strands.length; t++) {
      if (strands[t].isVacant()) {
        strands[t].start(tape.code, tape.size);
        return t;
      }
    }
    throw new IllegalStateException("full");
  }

  public int step(int t) throws IllegalArgumentException {
    Strand s = strandAt(t);
    if (s.state == READY) {
      takeTurn(s);
    }
    return s.state;
  }

  public int run(int how, int s, int n) throws IllegalArgumentException {
    if (how < HOW_DRAWN || how > HOW_IN_TURN || n < 0 || n > RUN_MOST) {
      throw new IllegalArgumentException("how or n is out of range");
    }
    int seed = s;
    for (int done = 0; done < n; done++) {
      int ready = howManyReady();
      if (ready < 1) {
        return done;
      }
      int skipped = 0;
      if (how == HOW_DRAWN) {
        seed = seed * 1103515245 + 12345;
        skipped = (seed >>> 8) % ready;
      }
      takeTurn(readyFrom(how == HOW_IN_TURN ? latest + 1 : 0, skipped));
    }
    return n;
  }

  public int tick(int n) throws IllegalArgumentException {
    if (n < 0) {
      throw new IllegalArgumentException("n is out of range");
    }
    clock += n;
    int woken = 0;
    for (Strand s : strands) {
      if (s.state == SLEEPING && s.wakesAt <= clock) {
        s.goOn();
        woken++;
      }
    }
    return woken;
  }

  public int interrupt(int t) throws IllegalArgumentException {
    Strand s = strandAt(t);
    if (s.state == READY) {
      s.interrupted = true;
      return 1;
    }
    if (s.state != WAITING && s.state != SLEEPING) {
      return 0;
    }
    if (s.sync instanceof Lock lock && s.kept > 0) {
      lock.interruptWait(s);
    } else {
      s.goOnWith(INTERRUPTED);
    }
    return 1;
  }

  public int look(int t, int what) throws IllegalArgumentException {
    Strand s = strandAt(t);
    if (what < 0 || what > LOOK_MOST) {
      throw new IllegalArgumentException("what is out of range");
    }
    switch (what) {
      case 0: return s.state;
      case 1: return s.a;
      case 2: return s.state == ABSENT || s.state == ENDED ? -1 : s.at;
      case 3: return s.state == WAITING && s.sync != null ? s.sync.number : -1;
      case 4: return s.interrupted ? 1 : 0;
      default: return s.why;
    }
  }

  public int dead() {
    for (int t = 0; t < STRANDS; t++) {
      int next = blockerOf(t);
      for (int i = 1; i < STRANDS && next != t; i++) {
        next = blockerOf(next);
      }
      if (next == t) {
        return t;
      }
    }
    return NOBODY;
  }

  public long sync(int o, int what)
      throws NoSuchElementException, IllegalArgumentException, UnsupportedOperationException {
    Sync s = syncAt(o);
    if (s == null) {
      throw new NoSuchElementException("no such OBJECT");
    }
    if (what < 0 || what > SYNC_MOST) {
      throw new IllegalArgumentException("what is out of range");
    }
    if (!s.tells(what)) {
      throw new UnsupportedOperationException("its KIND has no such number");
    }
    switch (what) {
      case 0: return s.value();
      case 1: return s.row.size;
      default: return s.detail(what);
    }
  }

  public long count(int what) throws IllegalArgumentException {
    if (what >= COUNT_KINDS && what < COUNT_KINDS + SYNCS) {
      Sync s = syncAt(what - COUNT_KINDS);
      return s == null ? KIND_NONE : s.kind;
    }
    switch (what) {
      case 0: return tape.length;
      case 1: return howManySyncs();
      case 2: return tape.place;
      case 3: return clock;
      case 4: return steps;
      default: throw new IllegalArgumentException("what is out of range");
    }
  }

  private static boolean fits(int kind, int a) {
    switch (kind) {
      case KIND_LOCK: return a == 0 || a == 1;
      case KIND_LATCH: return a >= 0;
      case KIND_BARRIER: return a >= 1 && a <= STRANDS;
      case KIND_QUEUE: return a >= 1 && a <= QUEUE_MOST;
      default: return kind >= KIND_LOCK && kind <= KIND_GATE;
    }
  }

  private static Sync built(int number, int kind, int a) {
    switch (kind) {
      case KIND_LOCK: return new Lock(number, a == 1);
      case KIND_SEMAPHORE: return new Semaphore(number, a);
      case KIND_QUEUE: return new Queue(number, a);
      case KIND_CELL: return new Holder(number, kind, true, a);
      case KIND_FUTURE: return new Holder(number, kind, false, 0);
      case KIND_GATE: return new Gate(number);
      default: return new Hurdle(number, kind, a);
    }
  }

  private Sync syncAt(int o) {
    return o >= 0 && o < syncs.length ? syncs[o] : null;
  }

  private int leastFree() {
    for (int o = 0; o < syncs.length; o++) {
      if (syncs[o] == null) {
        return o;
      }
    }
    return -1;
  }

  private int howManySyncs() {
    int n = 0;
    for (Sync s : syncs) {
      n += s == null ? 0 : 1;
    }
    return n;
  }

  private Strand strandAt(int t) {
    if (t < 0 || t >= strands.length) {
      throw new IllegalArgumentException("t is out of range");
    }
    return strands[t];
  }

  private int howManyReady() {
    int n = 0;
    for (Strand s : strands) {
      n += s.state == READY ? 1 : 0;
    }
    return n;
  }

  /** The READY one behind so many other READY ones, looked for from a number on and round; null without. */
  private Strand readyFrom(int from, int skipped) {
    int left = skipped;
    for (int i = 0; i < STRANDS; i++) {
      Strand s = strands[(from + i) & (STRANDS - 1)];
      if (s.state == READY) {
        if (left == 0) {
          return s;
        }
        left--;
      }
    }
    return null;
  }

  private void takeTurn(Strand s) {
    if (s == null) {
      return;
    }
    steps++;
    latest = s.number;
    if (s.sync instanceof Lock lock) {
      lock.tryAgain(s);
      return;
    }
    Word w = s.word();
    if (w.kind == KIND_NONE) {
      doAlone(s, w);
      return;
    }
    Sync o = syncAt(s.operand(0));
    if (o == null || o.kind != w.kind) {
      s.fail(NO_SUCH_SYNC);
    } else {
      o.perform(s, w);
    }
  }

  private void doAlone(Strand s, Word w) {
    int n = s.operand(0);
    switch (w) {
      case LOAD: s.goOnWith(n); break;
      case ADD: s.goOnWith(s.a + n); break;
      case TIME: s.goOnWith((int) clock); break;
      case JUMP: s.goTo(n); break;
      case ZERO: s.goTo(s.a == 0 ? n : s.at + 1); break;
      case LESS: s.goTo(s.a < 0 ? n : s.at + 1); break;
      case SLEEP: fallAsleep(s, n); break;
      default: s.state = ENDED; break;
    }
  }

  private void fallAsleep(Strand s, int n) {
    if (n < 1) {
      s.goOn();
    } else if (!s.refusesToWait()) {
      s.wakesAt = clock + n;
      s.state = SLEEPING;
    }
  }

  /** Whose LOCK the WAITING one t needs; NOBODY for one that is held up by no THREAD. */
  private int blockerOf(int t) {
    if (t < 0 || t >= strands.length) {
      return NOBODY;
    }
    Strand s = strands[t];
    if (s.state == WAITING && s.sync instanceof Lock lock && s.row == lock.row) {
      return lock.owner;
    }
    return NOBODY;
  }

  /** The words of INSTRUCTIONS, each with its numbers (p: 1 or more) and the KIND of its OBJECT. */
  private enum Word {
    LOAD("load", "n", KIND_NONE),
    ADD("add", "n", KIND_NONE),
    JUMP("jump", "k", KIND_NONE),
    ZERO("zero", "k", KIND_NONE),
    LESS("less", "k", KIND_NONE),
    SLEEP("sleep", "n", KIND_NONE),
    END("end", "", KIND_NONE),
    TIME("time", "", KIND_NONE),
    LOCK("lock", "o", KIND_LOCK),
    TRY("try", "o", KIND_LOCK),
    UNLOCK("unlock", "o", KIND_LOCK),
    WAIT("wait", "o", KIND_LOCK),
    SIGNAL("signal", "o", KIND_LOCK),
    ALL("all", "o", KIND_LOCK),
    GET("get", "o", KIND_CELL),
    SET("set", "o", KIND_CELL),
    INC("inc", "on", KIND_CELL),
    CAS("cas", "onn", KIND_CELL),
    ACQUIRE("acquire", "op", KIND_SEMAPHORE),
    RELEASE("release", "op", KIND_SEMAPHORE),
    DRAIN("drain", "o", KIND_SEMAPHORE),
    DOWN("down", "o", KIND_LATCH),
    AWAIT("await", "o", KIND_LATCH),
    MEET("meet", "o", KIND_BARRIER),
    PUT("put", "o", KIND_QUEUE),
    TAKE("take", "o", KIND_QUEUE),
    OFFER("offer", "o", KIND_QUEUE),
    POLL("poll", "o", KIND_QUEUE),
    GIVE("give", "o", KIND_FUTURE),
    JOIN("join", "o", KIND_FUTURE),
    IN("in", "o", KIND_GATE),
    OUT("out", "o", KIND_GATE),
    OWN("own", "o", KIND_GATE),
    BACK("back", "o", KIND_GATE);

    final String text;
    final String numbers;
    final int kind;

    Word(String text, String numbers, int kind) {
      this.text = text;
      this.numbers = numbers;
      this.kind = kind;
    }
  }

  /** THE TAPE, with the code of the PROGRAM that was read from it last. */
  private static final class Tape {
    final int[] code = new int[CODE_MOST * CODE_WIDTH];
    int size;
    int length;
    int place = -1;
    private final byte[] bytes = new byte[TAPE_MOST];
    private int at;

    void append(int four) {
      for (int shift = 24; shift >= 0 && length < bytes.length; shift -= 8) {
        bytes[length] = (byte) (four >>> shift);
        length++;
      }
    }

    /** Whether THE TAPE is a PROGRAM; place tells where it is not. */
    boolean read() {
      at = 0;
      place = -1;
      for (int i = 0; i < CODE_MOST; i++) {
        skipBlanks();
        if (!readInstruction(i * CODE_WIDTH)) {
          return false;
        }
        skipBlanks();
        if (at >= length) {
          size = i + 1;
          return true;
        }
        if (here() != ';') {
          return broken(at);
        }
        at++;
      }
      skipBlanks();
      return broken(at);
    }

    private boolean readInstruction(int slot) {
      int from = at;
      while (at < length && here() >= 'a' && here() <= 'z') {
        at++;
      }
      int w = wordAt(from);
      if (w < 0 || w >= WORDS.length) {
        return broken(from);
      }
      store(slot, w);
      String numbers = WORDS[w].numbers;
      for (int i = 0; i < numbers.length(); i++) {
        if (here() != ' ') {
          return broken(at);
        }
        skipBlanks();
        if (!readNumber(slot + 1 + i, numbers.charAt(i))) {
          return false;
        }
      }
      return true;
    }

    private boolean readNumber(int slot, char range) {
      int from = at;
      boolean minus = here() == '-';
      if (minus) {
        at++;
      }
      int first = at;
      int n = 0;
      while (at - first < DIGITS_MOST && here() >= '0' && here() <= '9') {
        n = n * 10 + (here() - '0');
        at++;
      }
      if (at == first) {
        return broken(at);
      }
      n = minus ? -n : n;
      if (!inRange(range, n)) {
        return broken(from);
      }
      store(slot, n);
      return true;
    }

    private static boolean inRange(char range, int n) {
      if (range == 'o') {
        return n >= 0 && n < SYNCS;
      }
      if (range == 'k') {
        return n >= 0 && n < CODE_MOST;
      }
      return range != 'p' || n >= 1;
    }

    /** Which word stands from there up to here; -1 for none. */
    private int wordAt(int from) {
      for (int w = 0; w < WORDS.length; w++) {
        if (isText(from, WORDS[w].text)) {
          return w;
        }
      }
      return -1;
    }

    private boolean isText(int from, String text) {
      if (at - from != text.length() || from < 0 || at > bytes.length) {
        return false;
      }
      for (int i = 0; i < text.length(); i++) {
        if (bytes[from + i] != text.charAt(i)) {
          return false;
        }
      }
      return true;
    }

    private void skipBlanks() {
      while (at < length && here() == ' ') {
        at++;
      }
    }

    /** The byte here; -1 at the end, which no byte of a PROGRAM is. */
    private int here() {
      return at >= 0 && at < length && at < bytes.length ? bytes[at] : -1;
    }

    private void store(int slot, int n) {
      if (slot >= 0 && slot < code.length) {
        code[slot] = n;
      }
    }

    private boolean broken(int where) {
      place = where;
      return false;
    }
  }

  /** Those that wait, in the order in which they came. */
  private static final class Row {
    int size;
    private final Strand[] strands = new Strand[STRANDS];

    Strand first() {
      return size > 0 ? strands[0] : null;
    }

    void add(Strand s) {
      if (size < strands.length) {
        strands[size] = s;
        size++;
      }
    }

    void remove(Strand s) {
      int kept = 0;
      for (int i = 0; i < size && i < strands.length; i++) {
        if (strands[i] != s) {
          strands[kept] = strands[i];
          kept++;
        }
      }
      size = kept;
    }
  }

  /** A THREAD. */
  private static final class Strand {
    final int number;
    int state;
    int a;
    int at;
    int why;
    boolean interrupted;
    long wakesAt;
    /** The OBJECT in whose row it stands, and the row; null without. */
    Sync sync;
    Row row;
    /** The COUNT of its LOCK before wait, above 0 from wait until it has the LOCK again. */
    int kept;
    /** What A is when wait is over. */
    int answer;
    private final int[] code = new int[CODE_MOST * CODE_WIDTH];
    private int size;

    Strand(int number) {
      this.number = number;
    }

    boolean isVacant() {
      return state == ABSENT || state == ENDED || state == FAILED;
    }

    void start(int[] from, int instructions) {
      for (int i = 0; i < code.length && i < from.length; i++) {
        code[i] = from[i];
      }
      size = instructions;
      state = READY;
      a = 0;
      at = 0;
      why = 0;
      interrupted = false;
    }

    Word word() {
      int w = codeAt(0);
      return w >= 0 && w < WORDS.length ? WORDS[w] : Word.END;
    }

    int operand(int i) {
      return codeAt(1 + i);
    }

    private int codeAt(int i) {
      int slot = at * CODE_WIDTH + i;
      return slot >= 0 && slot < code.length ? code[slot] : 0;
    }

    void goTo(int k) {
      at = k;
      state = k < size ? READY : ENDED;
    }

    /** Its INSTRUCTION is done, wherever it waited for that. */
    void goOn() {
      if (row != null) {
        row.remove(this);
      }
      row = null;
      sync = null;
      goTo(at + 1);
    }

    void goOnWith(int value) {
      a = value;
      goOn();
    }

    void fail(int reason) {
      state = FAILED;
      why = reason;
    }

    void standIn(Row r, Sync s) {
      r.add(this);
      row = r;
      sync = s;
      state = WAITING;
    }

    /** An interrupt that came while it was READY keeps it from waiting, once. */
    boolean refusesToWait() {
      if (!interrupted) {
        return false;
      }
      interrupted = false;
      a = INTERRUPTED;
      goOn();
      return true;
    }
  }

  /** An OBJECT. */
  private abstract static class Sync {
    final int number;
    final int kind;
    /** Where all wait; of a LOCK its first row. */
    final Row row = new Row();

    Sync(int number, int kind) {
      this.number = number;
      this.kind = kind;
    }

    abstract void perform(Strand s, Word w);

    abstract long value();

    boolean hasStrands() {
      return row.size > 0;
    }

    boolean tells(int what) {
      return what <= 1;
    }

    long detail(int what) {
      return NOBODY;
    }

    void holdUp(Strand s) {
      if (!s.refusesToWait()) {
        s.standIn(row, this);
      }
    }

    void allGoOn() {
      for (int i = 0; i < STRANDS; i++) {
        Strand f = row.first();
        if (f == null) {
          return;
        }
        f.goOn();
      }
    }
  }

  private static final class Lock extends Sync {
    int owner = NOBODY;
    private final boolean fair;
    private int holds;
    private final Row second = new Row();

    Lock(int number, boolean fair) {
      super(number, KIND_LOCK);
      this.fair = fair;
    }

    @Override
    void perform(Strand s, Word w) {
      if (w == Word.LOCK) {
        grabOrStandIn(s);
      } else if (w == Word.TRY) {
        s.goOnWith(isGrabbed(s) ? 1 : 0);
      } else if (owner != s.number) {
        s.fail(NOT_ITS_OWN);
      } else if (w == Word.UNLOCK) {
        s.goOn();
        holds--;
        if (holds == 0) {
          free();
        }
      } else if (w == Word.SIGNAL || w == Word.ALL) {
        s.goOn();
        callUp(w == Word.ALL ? second.size : 1);
      } else if (!s.refusesToWait()) {
        s.kept = holds;
        s.standIn(second, this);
        free();
      }
    }

    /** Not held up by an interrupt, as the document says of lock. */
    private void grabOrStandIn(Strand s) {
      if (isGrabbed(s)) {
        s.goOn();
      } else {
        s.standIn(row, this);
      }
    }

    private boolean isGrabbed(Strand s) {
      if (owner != NOBODY && owner != s.number) {
        return false;
      }
      owner = s.number;
      holds++;
      return true;
    }

    private void free() {
      owner = NOBODY;
      holds = 0;
      Strand f = row.first();
      if (f == null) {
        return;
      }
      if (fair) {
        have(f);
      } else {
        f.state = READY;
      }
    }

    private void have(Strand s) {
      owner = s.number;
      holds = 1;
      if (s.kept > 0) {
        holds = s.kept;
        s.a = s.answer;
        s.kept = 0;
      }
      s.goOn();
    }

    /** A step of one that was made READY in the row, which others may have overtaken. */
    void tryAgain(Strand s) {
      if (owner == NOBODY) {
        have(s);
      } else {
        s.state = WAITING;
      }
    }

    private void callUp(int most) {
      for (int i = 0; i < most; i++) {
        Strand f = second.first();
        if (f == null) {
          return;
        }
        comeToFirst(f, SIGNALLED);
      }
    }

    private void comeToFirst(Strand s, int answer) {
      second.remove(s);
      s.answer = answer;
      s.standIn(row, this);
    }

    /** Nobody may own the LOCK then, so none would free it later for one that comes alone. */
    void interruptWait(Strand s) {
      if (s.row != second) {
        s.answer = INTERRUPTED;
        return;
      }
      comeToFirst(s, INTERRUPTED);
      if (owner == NOBODY && row.size == 1) {
        free();
      }
    }

    @Override
    boolean hasStrands() {
      return row.size > 0 || second.size > 0;
    }

    @Override
    long value() {
      return holds;
    }

    @Override
    boolean tells(int what) {
      return what <= 3;
    }

    @Override
    long detail(int what) {
      return what == 2 ? owner : second.size;
    }
  }

  private static final class Semaphore extends Sync {
    private int permits;

    Semaphore(int number, int permits) {
      super(number, KIND_SEMAPHORE);
      this.permits = permits;
    }

    @Override
    void perform(Strand s, Word w) {
      switch (w) {
        case ACQUIRE:
          if (row.size == 0 && permits >= s.operand(1)) {
            permits -= s.operand(1);
            s.goOn();
          } else {
            holdUp(s);
          }
          break;
        case RELEASE:
          permits += s.operand(1);
          s.goOn();
          handOut();
          break;
        default:
          int drained = permits > 0 ? permits : 0;
          permits -= drained;
          s.goOnWith(drained);
          break;
      }
    }

    private void handOut() {
      for (int i = 0; i < STRANDS; i++) {
        Strand f = row.first();
        if (f == null || permits < f.operand(1)) {
          return;
        }
        permits -= f.operand(1);
        f.goOn();
      }
    }

    @Override
    long value() {
      return permits;
    }
  }

  /** LATCH and BARRIER, which hold all back and then let all go on at once. */
  private static final class Hurdle extends Sync {
    /** What is left of a LATCH; how many must meet at a BARRIER. */
    private int height;

    Hurdle(int number, int kind, int height) {
      super(number, kind);
      this.height = height;
    }

    @Override
    void perform(Strand s, Word w) {
      switch (w) {
        case DOWN:
          s.goOn();
          if (height > 0) {
            height--;
          }
          if (height == 0) {
            allGoOn();
          }
          break;
        case AWAIT:
          if (height == 0) {
            s.goOn();
          } else {
            holdUp(s);
          }
          break;
        default:
          s.a = height - row.size - 1;
          if (s.a == 0) {
            allGoOn();
            s.goOn();
          } else {
            holdUp(s);
          }
          break;
      }
    }

    @Override
    long value() {
      return kind == KIND_LATCH ? height : row.size;
    }
  }

  /** Its row holds takers only while it is empty, and putters only while it is full: never both. */
  private static final class Queue extends Sync {
    private final int[] items;
    private int head;
    private int size;

    Queue(int number, int capacity) {
      super(number, KIND_QUEUE);
      items = new int[capacity > 0 ? capacity : 1];
    }

    @Override
    void perform(Strand s, Word w) {
      switch (w) {
        case PUT:
          if (isAccepted(s.a)) {
            s.goOn();
          } else {
            holdUp(s);
          }
          break;
        case OFFER:
          s.goOnWith(isAccepted(s.a) ? 1 : 0);
          break;
        case TAKE:
          if (size > 0) {
            s.goOnWith(takenOut());
          } else {
            holdUp(s);
          }
          break;
        default:
          s.goOnWith(size > 0 ? takenOut() : NOTHING_TO_POLL);
          break;
      }
    }

    private boolean isAccepted(int value) {
      Strand taker = size == 0 ? row.first() : null;
      if (taker != null) {
        taker.goOnWith(value);
        return true;
      }
      if (size == items.length) {
        return false;
      }
      append(value);
      return true;
    }

    private int takenOut() {
      int value = head < items.length ? items[head] : 0;
      head = head + 1 < items.length ? head + 1 : 0;
      size--;
      Strand putter = row.first();
      if (putter != null) {
        append(putter.a);
        putter.goOn();
      }
      return value;
    }

    private void append(int value) {
      int tail = head + size;
      if (tail >= items.length) {
        tail -= items.length;
      }
      if (tail >= 0 && tail < items.length) {
        items[tail] = value;
        size++;
      }
    }

    @Override
    long value() {
      return size;
    }

    @Override
    boolean tells(int what) {
      return what <= 1 || what == 4;
    }

    @Override
    long detail(int what) {
      return items.length;
    }
  }

  /** CELL and FUTURE, which hold a VALUE; a FUTURE gets it once. */
  private static final class Holder extends Sync {
    private boolean filled;
    private int held;

    Holder(int number, int kind, boolean filled, int held) {
      super(number, kind);
      this.filled = filled;
      this.held = held;
    }

    @Override
    void perform(Strand s, Word w) {
      switch (w) {
        case GET:
          s.goOnWith(held);
          break;
        case SET:
          held = s.a;
          s.goOn();
          break;
        case INC:
          held += s.operand(1);
          s.goOnWith(held);
          break;
        case CAS:
          boolean same = held == s.operand(1);
          held = same ? s.operand(2) : held;
          s.goOnWith(same ? 1 : 0);
          break;
        case GIVE:
          s.goOnWith(isGiven(s.a) ? 1 : 0);
          break;
        default:
          if (filled) {
            s.goOnWith(held);
          } else {
            holdUp(s);
          }
          break;
      }
    }

    private boolean isGiven(int value) {
      if (filled) {
        return false;
      }
      filled = true;
      held = value;
      for (int i = 0; i < STRANDS; i++) {
        Strand f = row.first();
        if (f != null) {
          f.goOnWith(value);
        }
      }
      return true;
    }

    @Override
    long value() {
      return filled ? held : NONE;
    }
  }

  private static final class Gate extends Sync {
    private int owner = NOBODY;
    private int readers;

    Gate(int number) {
      super(number, KIND_GATE);
    }

    @Override
    void perform(Strand s, Word w) {
      switch (w) {
        case IN:
          if (owner == NOBODY && row.size == 0) {
            readers++;
            s.goOn();
          } else {
            holdUp(s);
          }
          break;
        case OUT:
          leave(s);
          break;
        case OWN:
          if (owner == NOBODY && readers == 0) {
            owner = s.number;
            s.goOn();
          } else {
            holdUp(s);
          }
          break;
        default:
          giveBack(s);
          break;
      }
    }

    private void leave(Strand s) {
      if (readers == 0) {
        s.fail(NO_READERS);
        return;
      }
      readers--;
      s.goOn();
      if (readers == 0) {
        rowGoesOn();
      }
    }

    private void giveBack(Strand s) {
      if (owner != s.number) {
        s.fail(NOT_ITS_OWN);
        return;
      }
      owner = NOBODY;
      s.goOn();
      rowGoesOn();
    }

    private void rowGoesOn() {
      for (int i = 0; i < STRANDS && owner == NOBODY; i++) {
        Strand f = row.first();
        if (f == null) {
          return;
        }
        if (f.word() != Word.OWN) {
          readers++;
        } else if (readers == 0) {
          owner = f.number;
        } else {
          return;
        }
        f.goOn();
      }
    }

    @Override
    long value() {
      return readers;
    }

    @Override
    boolean tells(int what) {
      return what <= 2;
    }

    @Override
    long detail(int what) {
      return owner;
    }
  }
}
