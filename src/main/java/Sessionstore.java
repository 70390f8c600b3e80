import java.util.Arrays;

/** A database for several sessions, as DOC.md tells it; the words of that page are used here. */
public final class Sessionstore {
  private static final int NONE = -1;
  /** NULL stands below every number, so that plain comparing puts it ahead of them. */
  private static final int NULL = -99999;
  private static final int NO_ROW = -88888;
  private static final int BOUND = 9999;

  private static final int TABLES = 4;
  private static final int COLUMNS = 4;
  private static final int KEYS = 20;
  private static final int ALL_KEYS = (1 << KEYS) - 1;
  private static final int SESSIONS = 4;
  private static final int POINTS = 3;
  private static final int TOKENS_MOST = 60;
  private static final int NUMBERS = 100;
  private static final int SOURCES = 3;
  private static final int LEVELS = 2;
  private static final int NESTS = 4;
  private static final int REPLAYS = 6;

  private static final int LATEST = 0;
  private static final int SNAPSHOT = 1;
  private static final int SERIAL = 2;

  private static final int FALSE = 0;
  private static final int UNKNOWN = 1;
  private static final int TRUE = 2;

  /** Each node stands for a token of its own, and a query takes six tokens. */
  private static final int NODES_MOST = 64;
  private static final int QUERIES_MOST = 16;
  private static final int DEEPEST = 40;
  private static final int ROUNDS_MOST = 1000;
  private static final int LONGEST = 1000000;
  private static final int CELLS_FIRST = 32;
  private static final int CELLS_MOST = 400000;

  private static final int SELECT = 0;
  private static final int FROM = 1;
  private static final int WHERE = 2;
  private static final int GROUP = 3;
  private static final int HAVING = 4;
  private static final int ORDER = 5;
  private static final int DESC = 6;
  private static final int LIMIT = 7;
  private static final int JOIN = 8;
  private static final int LEFT = 9;
  private static final int ON = 10;
  private static final int INSERT = 11;
  private static final int VALUES = 12;
  private static final int UPDATE = 13;
  private static final int SET = 14;
  private static final int DELETE = 15;
  private static final int CREATE = 16;
  private static final int DROP = 17;
  private static final int INDEX = 18;
  private static final int CHECK = 19;
  private static final int REFS = 20;
  private static final int NOTNULL = 21;
  private static final int AND = 22;
  private static final int OR = 23;
  private static final int NOT = 24;
  private static final int IS = 25;
  private static final int NULL_WORD = 26;
  private static final int IN = 27;
  private static final int EXISTS = 28;
  private static final int COUNT = 29;
  private static final int SUM = 30;
  private static final int MIN = 31;
  private static final int MAX = 32;
  private static final int STAR = 33;
  private static final int PLUS = 34;
  private static final int MINUS = 35;
  private static final int SLASH = 36;
  private static final int OPEN = 37;
  private static final int CLOSE = 38;
  private static final int BRACKET = 39;
  private static final int UNBRACKET = 40;
  private static final int COMMA = 41;
  private static final int EQUAL = 42;
  private static final int UNEQUAL = 43;
  private static final int LESS = 44;
  private static final int LESS_EQUAL = 45;
  private static final int MORE = 46;
  private static final int MORE_EQUAL = 47;
  private static final int OUTER = 48;
  private static final int SOURCE_A = 49;
  private static final int TABLE_0 = 52;
  private static final int COLUMN_0 = 56;

  /** The words of the tokens 0 to 59, in their sequence. */
  private static final String WORDS = "select from where group having order desc limit join left on insert values update set delete create drop index check refs notnull and or not is null in exists count sum min max * + - / ( ) [ ] , = <> < <= > >= outer a b c T0 T1 T2 T3 c0 c1 c2 c3";

  private static final int SAMPLES = 20;
  /** The samples, each ended by -1; 200 stands for x, 201 for y. */
  private static final int[] SAMPLE_TOKENS = {
    16, 52, 37, 56, 41, 57, 41, 58, 21, 38, 19, 57, 45, 150, -1,
    16, 53, 37, 56, 41, 57, 20, 52, 41, 58, 38, -1,
    18, 52, 57, -1,
    11, 52, 12, 37, 200, 41, 201, 41, 101, 38, -1,
    11, 53, 12, 37, 200, 41, 201, 41, 102, 38, -1,
    13, 52, 14, 57, 42, 57, 34, 201, 2, 56, 42, 200, -1,
    13, 52, 14, 57, 42, 57, 35, 101, 2, 57, 46, 201, -1,
    15, 52, 2, 56, 42, 200, -1,
    15, 53, 2, 57, 42, 200, -1,
    0, 33, 1, 52, 2, 56, 47, 200, 22, 56, 45, 201, -1,
    0, 56, 41, 57, 33, 102, 1, 52, 2, 57, 46, 201, 5, 57, 6, 41, 56, 7, 200, -1,
    0, 49, 56, 41, 50, 56, 41, 50, 58, 1, 52, 8, 53, 10, 50, 57, 42, 49, 56, -1,
    0, 56, 41, 29, 37, 50, 56, 38, 1, 52, 9, 53, 10, 50, 57, 42, 49, 56, 3, 56, 4, 29, 37, 50, 56,
    38, 45, 201, -1,
    0, 56, 1, 52, 2, 56, 24, 27, 37, 0, 57, 1, 53, 2, 58, 46, 200, 38, -1,
    0, 30, 37, 57, 38, 41, 32, 37, 58, 38, 1, 52, 2, 28, 37, 0, 56, 1, 53, 2, 57, 42, 48, 56, 38, -1,
    11, 53, 0, 56, 34, 200, 41, 56, 41, 57, 1, 52, 2, 57, 46, 201, -1,
    13, 53, 14, 57, 42, 26, 41, 58, 42, 37, 0, 32, 37, 57, 38, 1, 52, 38, 2, 56, 42, 200, -1,
    0, 29, 37, 33, 38, 1, 52, -1,
    13, 52, 14, 56, 42, 201, 2, 56, 42, 200, -1,
    17, 53, -1
  };
  private static final int SAMPLE_X = 200;
  private static final int SAMPLE_Y = 201;

  private static final int SYNTAX = 1;
  private static final int NAME = 2;
  private static final int MISPLACED = 3;
  private static final int NOT_NOW = 4;
  private static final int KEYED = 5;
  private static final int NULLED = 6;
  private static final int CHECKED = 7;
  private static final int DOUBLE = 8;
  private static final int CONFLICT = 9;
  private static final int LOST = 10;
  private static final int RING = 11;
  private static final int GIVEN_UP = 12;

  private static final int CHANGED = 1;
  private static final int ROWS = 2;
  private static final int ERROR = 3;
  private static final int WAITS = 4;
  private static final int DONE = 5;
  /** What is told of a result, by the numbers of result(). */
  private static final int R_KIND = 0;
  private static final int R_ROWS = 1;
  private static final int R_WIDTH = 2;
  private static final int R_ERROR = 3;
  private static final int R_PLACE = 4;
  private static final int R_ALL = 5;

  /** The fields of a node. */
  private static final int N_KIND = 0;
  private static final int N_FIRST = 1;
  private static final int N_NEXT = 2;
  private static final int N_ARG = 3;
  private static final int N_MORE = 4;
  private static final int N_MARK = 5;
  private static final int N_PLACE = 6;
  private static final int N_QUERY = 7;
  private static final int N_CLAUSE = 8;
  private static final int N_INNER = 9;
  private static final int N_WIDTH = 10;

  /** The kinds of nodes. */
  private static final int K_NUMBER = 1;
  private static final int K_NEGATIVE = 2;
  private static final int K_SUM = 3;
  private static final int K_PRODUCT = 4;
  private static final int K_REF = 5;
  private static final int K_OUTER = 6;
  private static final int K_AGGREGATE = 7;
  private static final int K_SUBQUERY = 8;
  private static final int K_OR = 9;
  private static final int K_AND = 10;
  private static final int K_NOT = 11;
  private static final int K_NEST = 12;
  private static final int K_COMPARE = 13;
  private static final int K_IS_NULL = 14;
  private static final int K_IN_LIST = 15;
  private static final int K_IN_QUERY = 16;
  private static final int K_EXISTS = 17;
  private static final int K_SET = 18;
  private static final int K_SPEC = 19;

  /** The parts of a statement in which a ref, an aggregate or a query stands. */
  private static final int IN_WHAT = 1;
  private static final int IN_WHERE = 2;
  private static final int IN_GROUP = 3;
  private static final int IN_HAVING = 4;
  private static final int IN_ORDER = 5;
  private static final int IN_SET = 6;
  private static final int IN_VALUES = 7;
  private static final int IN_CHECK = 8;
  /** The on behind the source 1 is IN_ON + 1, that behind the source 2 is IN_ON + 2. */
  private static final int IN_ON = 10;

  /** What a query stands for. */
  private static final int AS_STATEMENT = 0;
  private static final int AS_VALUE = 1;
  private static final int AS_SET = 2;
  private static final int AS_EXISTENCE = 3;

  /** The fields of a source of a query. */
  private static final int S_TABLE = 0;
  private static final int S_PLACE = 1;
  private static final int S_ON = 2;
  private static final int S_LEFT = 3;
  private static final int S_WIDTH = 4;

  /** The fields of a version. */
  private static final int V_COMMIT = 0;
  private static final int V_TABLE = 1;
  private static final int V_KEY = 2;
  private static final int V_ROW = 3;
  private static final int V_NEXT = 4;
  private static final int V_STATE = 5;
  private static final int V_CELLS = 6;
  private static final int V_WIDTH = 10;

  /** A version that vacuum took is told no more, but a crash may need it yet. */
  private static final int KEPT = 0;
  private static final int VACUUMED = 1;
  private static final int REMOVED = 2;

  /** The steps of a serial transaction, as they are noted for running it again. */
  private static final int RAN = 0;
  private static final int SET_POINT = 1;
  private static final int WENT_BACK = 2;

  private final Table[] tables = new Table[TABLES];
  private final Session[] sessions = new Session[SESSIONS];
  private final Disc store = new Disc();
  private final Image committed = new Image();
  private final Parser parser;
  private final Engine engine;
  private final Planner planner;
  private final Witness witness;
  private final Tree spare = new Tree();
  private final Rows serials = new Rows();
  private final StringBuilder text = new StringBuilder();
  private final int[] ways = new int[SESSIONS];
  private int lastNumber;
  private int lastTurn;
  private int refused;

  public Sessionstore() {
    for (int i = 0; i < TABLES; i++) {
      tables[i] = new Table();
    }
    for (int i = 0; i < SESSIONS; i++) {
      sessions[i] = new Session();
    }
    serials.reset(2);
    parser = new Parser(spare);
    engine = new Engine(tables, spare, committed);
    planner = new Planner(tables, engine, spare, sessions[0], committed);
    witness = new Witness(tables, parser, planner);
  }

  // ---- what is typed and run

  public int say(int session, int a, int b, int c, int d, int e)
      throws IndexOutOfBoundsException, IllegalArgumentException, IllegalStateException {
    needSession(session);
    if (!isTyped(a) || !isTyped(b) || !isTyped(c) || !isTyped(d) || !isTyped(e)) {
      throw new IllegalArgumentException("no token");
    }
    needPower();
    Session s = sessions[session];
    int more = countTyped(a) + countTyped(b) + countTyped(c) + countTyped(d) + countTyped(e);
    if (s.typedCount + more > TOKENS_MOST) {
      throw new IllegalStateException("too many tokens");
    }
    s.type(a);
    s.type(b);
    s.type(c);
    s.type(d);
    s.type(e);
    return s.typedCount;
  }

  public int sample(int session, int sample, int x, int y)
      throws IndexOutOfBoundsException, IllegalArgumentException, IllegalStateException {
    needSession(session);
    if (sample < 0 || sample >= SAMPLES || x < 0 || x >= NUMBERS || y < 0 || y >= NUMBERS) {
      throw new IllegalArgumentException("no sample, or no number");
    }
    needPower();
    Session s = sessions[session];
    s.typedCount = 0;
    int number = 0;
    for (int i = 0; i < SAMPLE_TOKENS.length && number <= sample; i++) {
      int t = SAMPLE_TOKENS[i];
      if (t == NONE) {
        number++;
      } else if (number == sample) {
        s.type(t == SAMPLE_X ? NUMBERS + x : t == SAMPLE_Y ? NUMBERS + y : t);
      }
    }
    return s.typedCount;
  }

  public int wipe(int session, int many)
      throws IndexOutOfBoundsException, IllegalArgumentException, IllegalStateException {
    needSession(session);
    needMany(many);
    needPower();
    Session s = sessions[session];
    s.typedCount = many >= s.typedCount ? 0 : s.typedCount - many;
    return s.typedCount;
  }

  public int run(int session)
      throws IndexOutOfBoundsException, IllegalStateException {
    needSession(session);
    needPower();
    needNoWait(session);
    Session s = sessions[session];
    s.tree.load(s.typed, s.typedCount);
    s.typedCount = 0;
    read(s.tree);
    if (s.tree.fault != 0) {
      s.tellError(s.tree.fault, s.tree.faultPlace);
    } else if (isDefinition(s.tree.verb)) {
      define(s);
    } else {
      start(session);
    }
    goOn();
    return codeOf(s);
  }

  public int begin(int session, int level)
      throws IndexOutOfBoundsException, IllegalArgumentException, IllegalStateException {
    needSession(session);
    if (level < LATEST || level > SERIAL) {
      throw new IllegalArgumentException("no level");
    }
    needPower();
    Session s = sessions[session];
    if (s.number != 0) {
      throw new IllegalStateException("it has a transaction");
    }
    lastNumber++;
    s.open(lastNumber, level, false, store.last, committed);
    return lastNumber;
  }

  public int commit(int session)
      throws IndexOutOfBoundsException, IllegalStateException {
    needSession(session);
    needPower();
    needTransaction(session);
    needNoWait(session);
    int number = commitOf(sessions[session]);
    goOn();
    return number;
  }

  public int rollback(int session)
      throws IndexOutOfBoundsException, IllegalStateException {
    needSession(session);
    needPower();
    needTransaction(session);
    Session s = sessions[session];
    if (s.turn != 0) {
      s.turn = 0;
      s.forgetResult();
    }
    int many = takeBack(s);
    goOn();
    return many;
  }

  public int savepoint(int session, int k)
      throws IndexOutOfBoundsException, IllegalArgumentException, IllegalStateException {
    needSession(session);
    needPoint(k);
    needPower();
    needTransaction(session);
    needNoWait(session);
    Session s = sessions[session];
    s.setPoint(k);
    if (s.level == SERIAL) {
      s.note(SET_POINT, k);
    }
    return s.countChanged();
  }

  public int back(int session, int k)
      throws IndexOutOfBoundsException, IllegalArgumentException, IllegalStateException {
    needSession(session);
    needPoint(k);
    needPower();
    needTransaction(session);
    needNoWait(session);
    Session s = sessions[session];
    if (s.savedTurn[k] == 0) {
      throw new IllegalStateException("that savepoint is not set");
    }
    int many = s.goBack(k);
    store.records += many;
    if (s.level == SERIAL) {
      s.note(WENT_BACK, k);
    }
    return many;
  }

  public int giveUp(int session)
      throws IndexOutOfBoundsException, IllegalStateException {
    needSession(session);
    needPower();
    Session s = sessions[session];
    if (s.turn == 0) {
      throw new IllegalStateException("it does not wait");
    }
    int number = s.number;
    s.turn = 0;
    s.tellError(GIVEN_UP, NONE);
    if (s.isAuto) {
      takeBack(s);
    }
    goOn();
    return number;
  }

  // ---- the disc

  public int lazy(boolean isLazy)
      throws IllegalStateException {
    needPower();
    int was = store.isLazy ? 1 : 0;
    store.isLazy = isLazy;
    return was;
  }

  public int safe(int many)
      throws IllegalArgumentException, IllegalStateException {
    needMany(many);
    needPower();
    int left = store.records - store.safe;
    store.secure(store.safe + (many < left ? many : left));
    return store.safe;
  }

  public int pages(int many)
      throws IllegalArgumentException, IllegalStateException {
    if (many < 1 || many > 20) {
      throw new IllegalArgumentException("not 1 to 20 pages");
    }
    needPower();
    return store.safe;
  }

  public int checkpoint()
      throws IllegalStateException {
    needPower();
    store.secure(store.records);
    return store.safe;
  }

  public int crash(boolean isTorn)
      throws IllegalStateException {
    needPower();
    int many = store.last - store.safeLast;
    store.fail();
    for (int i = 0; i < SESSIONS; i++) {
      sessions[i].clear();
    }
    int kept = 0;
    for (int i = 0; i < serials.count; i++) {
      if (serials.at(i, 1) <= store.last) {
        serials.set(kept, 0, serials.at(i, 0));
        serials.set(kept, 1, serials.at(i, 1));
        kept++;
      }
    }
    serials.count = kept;
    return many;
  }

  public int recover(int steps)
      throws IllegalArgumentException, IllegalStateException {
    if (steps < NONE || steps > 99) {
      throw new IllegalArgumentException("not -1 to 99 steps");
    }
    if (store.isOn) {
      throw new IllegalStateException("the power is on");
    }
    // Breaking off changes nothing: what is found hangs on the safe records alone.
    store.recoverAll();
    committed.copyFrom(store.image);
    witness.forget();
    return store.last;
  }

  public int vacuum()
      throws IllegalStateException {
    needPower();
    int least = lowest();
    int many = 0;
    for (int t = 0; t < TABLES; t++) {
      for (int k = 0; k < KEYS; k++) {
        many += store.clean(t, k, least);
      }
    }
    return many;
  }

  public int knock() {
    refused++;
    return refused;
  }

  // ---- what is asked of sessions

  public String typed(int session)
      throws IndexOutOfBoundsException, IllegalStateException {
    needSession(session);
    needPower();
    text.setLength(0);
    writeTokens(sessions[session].typed, sessions[session].typedCount);
    return text.toString();
  }

  public int fault(int session, int what)
      throws IndexOutOfBoundsException, IllegalArgumentException, IllegalStateException {
    needSession(session);
    needWhat(what, 1);
    needPower();
    readTyped(session);
    return what == 0 ? spare.fault : spare.faultPlace;
  }

  public int token(int session, int place)
      throws IndexOutOfBoundsException, IllegalStateException {
    needSession(session);
    Session s = sessions[session];
    if (place < 0 || place >= s.typedCount || place >= TOKENS_MOST) {
      throw new IndexOutOfBoundsException("no such place");
    }
    needPower();
    return s.typed[place];
  }

  public int result(int session, int what)
      throws IndexOutOfBoundsException, IllegalArgumentException, IllegalStateException {
    needSession(session);
    needWhat(what, R_ALL - 1);
    needPower();
    return sessions[session].outcome[what];
  }

  public String answer(int session)
      throws IndexOutOfBoundsException, IllegalStateException {
    needSession(session);
    needPower();
    text.setLength(0);
    writeAnswer(sessions[session].told);
    return text.toString();
  }

  public int value(int session, int row, int column)
      throws IndexOutOfBoundsException, IllegalStateException {
    needSession(session);
    Session s = sessions[session];
    boolean isThere = row >= 0 && row < s.told.count && column >= 0 && column < s.told.width;
    if (!isThere) {
      throw new IndexOutOfBoundsException("no such row or place");
    }
    needPower();
    return s.told.at(row, column);
  }

  public int ofSession(int session, int what)
      throws IndexOutOfBoundsException, IllegalArgumentException, IllegalStateException {
    needSession(session);
    needWhat(what, 7);
    needPower();
    Session s = sessions[session];
    boolean isOpen = s.number != 0;
    switch (what) {
      case 0: return isOpen ? s.level : NONE;
      case 1: return s.turn != 0 ? 1 : 0;
      case 2: return s.number;
      case 3: return isOpen ? s.began : 0;
      case 4: return s.countChanged();
      case 5: return s.pointSet();
      case 6: return s.typedCount;
      default: return s.turn != 0 ? blockersOf(session, s.tree) : 0;
    }
  }

  public int locks(int session, int table, boolean isWrite)
      throws IndexOutOfBoundsException, IllegalStateException {
    needSession(session);
    needTable(table);
    needPower();
    return isWrite ? sessions[session].write[table] : sessions[session].read[table];
  }

  public int changed(int session, int table)
      throws IndexOutOfBoundsException, IllegalStateException {
    needSession(session);
    needTable(table);
    needPower();
    return sessions[session].changes.touched[table];
  }

  public int writer(int table, int key)
      throws IndexOutOfBoundsException, IllegalArgumentException, IllegalStateException {
    needTable(table);
    needKey(key);
    needPower();
    for (int i = 0; i < SESSIONS; i++) {
      if ((sessions[i].write[table] & (1 << key)) != 0) {
        return i;
      }
    }
    return NONE;
  }

  public String seen(int session, int table)
      throws IndexOutOfBoundsException, IllegalStateException {
    needSession(session);
    needTable(table);
    needPower();
    planner.see(sessions[session], committed);
    text.setLength(0);
    writeTable(table, planner.view);
    return text.toString();
  }

  public boolean seesCommitted(int session, int table)
      throws IndexOutOfBoundsException, IllegalStateException {
    needSession(session);
    needTable(table);
    needPower();
    planner.see(sessions[session], committed);
    return planner.view.isLikeIn(table, committed);
  }

  public int tried(int session)
      throws IndexOutOfBoundsException, IllegalStateException {
    needSession(session);
    needPower();
    needNoWait(session);
    readTyped(session);
    if (spare.fault != 0) {
      return -10 - spare.fault;
    }
    if (isDefinition(spare.verb)) {
      return isNotNow(spare) ? -10 - NOT_NOW : 0;
    }
    if (blockersOf(session, spare) != 0) {
      return -2;
    }
    int error = errorOf(sessions[session]);
    return error != 0 ? -10 - error : planner.count;
  }

  public String wouldFind(int session)
      throws IndexOutOfBoundsException, IllegalStateException {
    needSession(session);
    needPower();
    needNoWait(session);
    readTyped(session);
    if (spare.fault != 0 || spare.verb != SELECT) {
      return "";
    }
    planner.look(spare, sessions[session], committed);
    planner.work();
    text.setLength(0);
    writeAnswer(engine.outAt(0));
    return text.toString();
  }

  // ---- what is asked of tables

  public int ofTable(int table, int what)
      throws IndexOutOfBoundsException, IllegalArgumentException, IllegalStateException {
    needTable(table);
    needWhat(what, 5);
    needPower();
    Table t = tables[table];
    switch (what) {
      case 0: return t.columns;
      case 1: return Integer.bitCount(committed.has[table]);
      case 2: return store.countVersions(table);
      case 3: return t.countIndexes();
      case 4: return referringColumns(table);
      default: return t.creation.cond != NONE && t.columns > 0 ? 1 : 0;
    }
  }

  public int ofColumn(int table, int column, int what)
      throws IndexOutOfBoundsException, IllegalArgumentException, IllegalStateException {
    needColumn(table, column);
    needWhat(what, 2);
    needPower();
    Table t = tables[table];
    switch (what) {
      case 0: return t.isNotNull[column] ? 1 : 0;
      case 1: return t.refersTo[column];
      default: return t.isIndexed[column] ? 1 : 0;
    }
  }

  public String table(int table)
      throws IndexOutOfBoundsException, IllegalStateException {
    needTable(table);
    needPower();
    text.setLength(0);
    writeTable(table, committed);
    return text.toString();
  }

  public int cell(int table, int key, int column)
      throws IndexOutOfBoundsException, IllegalArgumentException, IllegalStateException {
    needColumn(table, column);
    needKey(key);
    needPower();
    return committed.holds(table, key) ? committed.cellAt(table, key, column) : NO_ROW;
  }

  public int found(int table, int column, int value)
      throws IndexOutOfBoundsException, IllegalArgumentException, IllegalStateException {
    needColumn(table, column);
    if (value < -BOUND || value > BOUND) {
      throw new IllegalArgumentException("no value");
    }
    needPower();
    return committed.keysWith(table, column, value);
  }

  public int referring(int table, int key)
      throws IndexOutOfBoundsException, IllegalArgumentException, IllegalStateException {
    needTable(table);
    needKey(key);
    needPower();
    int many = 0;
    for (int t = 0; t < TABLES; t++) {
      for (int c = 0; c < tables[t].columns && c < COLUMNS; c++) {
        if (tables[t].refersTo[c] == table) {
          many += Integer.bitCount(committed.keysWith(t, c, key));
        }
      }
    }
    return many;
  }

  public String versions(int table, int key)
      throws IndexOutOfBoundsException, IllegalArgumentException, IllegalStateException {
    needTable(table);
    needKey(key);
    needPower();
    text.setLength(0);
    writeVersions(table, key);
    return text.toString();
  }

  public String made(int table)
      throws IndexOutOfBoundsException, IllegalStateException {
    needTable(table);
    needPower();
    text.setLength(0);
    if (tables[table].columns > 0) {
      writeTokens(tables[table].creation.tokens, tables[table].creation.size);
    }
    return text.toString();
  }

  // ---- the whole

  public String order()
      throws IllegalStateException {
    needPower();
    text.setLength(0);
    writeOrder();
    return text.toString();
  }

  public int low()
      throws IllegalStateException {
    needPower();
    return lowest();
  }

  public String waits()
      throws IllegalStateException {
    needPower();
    text.setLength(0);
    writeWaits();
    return text.toString();
  }

  public int disc(int what)
      throws IllegalArgumentException {
    needWhat(what, 5);
    switch (what) {
      case 0: return store.records;
      case 1: return store.safe;
      case 2: return store.isOn ? 1 : 0;
      case 3: return store.isLazy ? 1 : 0;
      case 4: return store.last;
      default: return store.safeLast;
    }
  }

  public int house(int what)
      throws IllegalArgumentException, IllegalStateException {
    needWhat(what, 7);
    if (what == 5) {
      return refused;
    }
    needPower();
    if (what == 6) {
      return lastNumber;
    }
    if (what == 3 || what == 4) {
      return countSessions(what == 4);
    }
    int many = 0;
    for (int t = 0; t < TABLES; t++) {
      switch (what) {
        case 0: many += tables[t].columns > 0 ? 1 : 0; break;
        case 1: many += Integer.bitCount(committed.has[t]); break;
        case 2: many += store.countVersions(t); break;
        default: many += tables[t].countIndexes(); break;
      }
    }
    return many;
  }

  // An INDEX is a mark alone, and every query goes through all rows; so these two can not differ.
  public boolean isSound() {
    if (!store.isOn) {
      return true;
    }
    boolean isSo = planner.holdsAlways(committed) && store.isFoundAgain() && ringSet() == 0;
    for (int i = 0; i < REPLAYS && isSo; i++) {
      isSo = witness.isSame(i);
    }
    return isSo;
  }

  public long digest() {
    long d = 7602;
    for (int i = 0; i <= 5; i++) {
      d = d * 31 + disc(i);
    }
    if (store.isOn) {
      for (int i = 0; i <= 7; i++) {
        d = d * 31 + house(i);
      }
      for (int s = 0; s < SESSIONS; s++) {
        d = digestSession(d, s);
      }
      for (int t = 0; t < TABLES; t++) {
        d = digestTable(d, t);
      }
      text.setLength(0);
      writeOrder();
      d = d * 31 + text.length();
      text.setLength(0);
      writeWaits();
      d = d * 31 + text.length();
    }
    return d * 31 + (isSound() ? 1 : 0);
  }

  private long digestSession(long start, int session) {
    long d = start;
    for (int i = 0; i <= 7; i++) {
      d = d * 31 + ofSession(session, i);
    }
    for (int i = 0; i < R_ALL; i++) {
      d = d * 31 + result(session, i);
    }
    text.setLength(0);
    writeAnswer(sessions[session].told);
    d = d * 31 + text.length();
    for (int t = 0; t < TABLES; t++) {
      d = d * 31 + locks(session, t, false);
      d = d * 31 + locks(session, t, true);
    }
    return d;
  }

  private long digestTable(long start, int table) {
    long d = start;
    for (int i = 0; i <= 5; i++) {
      d = d * 31 + ofTable(table, i);
    }
    int columns = tables[table].columns;
    for (int c = 0; c < columns; c++) {
      for (int i = 0; i <= 2; i++) {
        d = d * 31 + ofColumn(table, c, i);
      }
    }
    for (int k = 0; k < KEYS; k++) {
      for (int c = 0; c < columns && committed.holds(table, k); c++) {
        d = d * 31 + committed.cellAt(table, k, c);
      }
    }
    for (int k = 0; k < KEYS; k++) {
      text.setLength(0);
      writeVersions(table, k);
      d = d * 31 + text.length();
    }
    return d;
  }

  // ---- what a call needs

  private void needSession(int session) {
    if (session < 0 || session >= SESSIONS) {
      throw new IndexOutOfBoundsException("no such session");
    }
  }

  private void needTable(int table) {
    if (table < 0 || table >= TABLES) {
      throw new IndexOutOfBoundsException("no such table");
    }
  }

  private void needColumn(int table, int column) {
    needTable(table);
    if (column < 0 || column >= tables[table].columns || column >= COLUMNS) {
      throw new IndexOutOfBoundsException("no such column");
    }
  }

  private void needKey(int key) {
    if (key < 0 || key >= KEYS) {
      throw new IllegalArgumentException("no key");
    }
  }

  private void needPoint(int k) {
    if (k < 0 || k >= POINTS) {
      throw new IllegalArgumentException("no savepoint");
    }
  }

  private void needWhat(int what, int most) {
    if (what < 0 || what > most) {
      throw new IllegalArgumentException("nothing of that number is told");
    }
  }

  private void needMany(int many) {
    if (many < 1) {
      throw new IllegalArgumentException("below 1");
    }
  }

  private void needPower() {
    if (!store.isOn) {
      throw new IllegalStateException("the power is off");
    }
  }

  private void needTransaction(int session) {
    if (sessions[session].number == 0) {
      throw new IllegalStateException("it has no transaction");
    }
  }

  private void needNoWait(int session) {
    if (sessions[session].turn != 0) {
      throw new IllegalStateException("it waits");
    }
  }

  private static boolean isTyped(int token) {
    return token == NONE || token >= 0 && token < TOKENS_MOST || token >= NUMBERS && token < 2 * NUMBERS;
  }

  private static int countTyped(int token) {
    return token == NONE ? 0 : 1;
  }

  private static boolean isTable(int table) {
    return table >= 0 && table < TABLES;
  }

  private static boolean isDefinition(int verb) {
    return verb == CREATE || verb == DROP || verb == INDEX;
  }

  // ---- statements and transactions

  private void read(Tree tree) {
    parser.parse(tree);
    if (tree.fault == 0) {
      tree.judge(tables);
    }
  }

  private void readTyped(int session) {
    spare.load(sessions[session].typed, sessions[session].typedCount);
    read(spare);
  }

  private static int codeOf(Session s) {
    switch (s.outcome[R_KIND]) {
      case CHANGED:
      case ROWS: return s.outcome[R_ROWS];
      case ERROR: return -10 - s.outcome[R_ERROR];
      case WAITS: return -2;
      default: return 0;
    }
  }

  private void start(int session) {
    Session s = sessions[session];
    if (s.number == 0 && s.tree.verb != SELECT) {
      lastNumber++;
      s.open(lastNumber, LATEST, true, store.last, committed);
    }
    if (blockersOf(session, s.tree) == 0) {
      finish(s);
      return;
    }
    lastTurn++;
    s.turn = lastTurn;
    s.tell(WAITS, 0, 0);
  }

  /** The sessions for which that statement would have to wait now; if none, the planner knows what it does. */
  private int blockersOf(int session, Tree statement) {
    planner.look(statement, sessions[session], committed);
    int first = clashes(session, planner.readNeeds, NONE, 0);
    if (first != 0) {
      return first;
    }
    planner.work();
    return clashes(session, planner.refNeeds, statement.table, planner.writeKeys);
  }

  private int clashes(int session, int[] reads, int table, int writes) {
    int set = 0;
    for (int i = 0; i < SESSIONS; i++) {
      Session other = sessions[i];
      boolean isClash = false;
      for (int t = 0; t < TABLES && i != session; t++) {
        int mine = t == table ? writes : 0;
        isClash |= (other.write[t] & (reads[t] | mine)) != 0 || (other.read[t] & mine) != 0;
      }
      set |= isClash ? 1 << i : 0;
    }
    return set;
  }

  private int errorOf(Session s) {
    int error = planner.rowError();
    boolean isLate = s.number != 0 && s.level == SNAPSHOT
        && store.isNewer(planner.tree.table, planner.writeKeys, s.began);
    if (error == 0 && isLate) {
      error = CONFLICT;
    }
    return error == 0 && planner.isLost() ? LOST : error;
  }

  /** Does the statement that the planner looked at last. */
  private void finish(Session s) {
    int error = errorOf(s);
    s.turn = 0;
    if (error == CONFLICT) {
      takeBack(s);
      s.tellError(CONFLICT, NONE);
      return;
    }
    if (error == 0 || s.level == SERIAL) {
      planner.hold();
    }
    store.records += planner.carryOut(error);
    if (s.number != 0 && s.level == SERIAL) {
      s.noteRun();
    }
    if (s.isAuto && error == 0) {
      commitOf(s);
    } else if (s.isAuto) {
      takeBack(s);
    }
  }

  private int takeBack(Session s) {
    int many = s.records;
    store.records += many;
    s.close();
    return many;
  }

  private int commitOf(Session s) {
    int number = 0;
    for (int t = 0; t < TABLES; t++) {
      if ((s.changes.touched[t] & (s.changes.has[t] | committed.has[t])) != 0) {
        number = store.last + 1;
      }
    }
    if (s.level == SERIAL) {
      witness.keep(s, committed);
      int row = serials.add();
      serials.set(row, 0, s.number);
      serials.set(row, 1, number);
    }
    if (number != 0) {
      store.last = number;
      for (int t = 0; t < TABLES; t++) {
        store.addVersions(t, s.changes, committed);
      }
      committed.lay(s.changes);
      store.recordCommit();
    }
    s.close();
    return number;
  }

  private void goOn() {
    for (int i = 0; i < ROUNDS_MOST; i++) {
      int free = firstFree();
      if (free != NONE) {
        finish(sessions[free]);
        continue;
      }
      int ring = ringSet();
      if (ring == 0) {
        return;
      }
      Session last = greatest(ring);
      last.turn = 0;
      takeBack(last);
      last.tellError(RING, NONE);
    }
  }

  /** The session that began to wait first of those that need not wait now; the planner knows what it does. */
  private int firstFree() {
    int before = 0;
    for (int i = 0; i < SESSIONS; i++) {
      int session = nextWaiting(before);
      if (session == NONE) {
        return NONE;
      }
      if (blockersOf(session, sessions[session].tree) == 0) {
        return session;
      }
      before = sessions[session].turn;
    }
    return NONE;
  }

  private int nextWaiting(int before) {
    int best = NONE;
    for (int i = 0; i < SESSIONS; i++) {
      int turn = sessions[i].turn;
      if (turn > before && (best == NONE || turn < sessions[best].turn)) {
        best = i;
      }
    }
    return best;
  }

  /** The sessions that stand in rings: those from which the way of the waiting leads back to them. */
  private int ringSet() {
    for (int i = 0; i < SESSIONS; i++) {
      ways[i] = sessions[i].turn != 0 ? blockersOf(i, sessions[i].tree) : 0;
    }
    int set = 0;
    for (int via = 0; via < SESSIONS; via++) {
      for (int i = 0; i < SESSIONS; i++) {
        if ((ways[i] & (1 << via)) != 0) {
          ways[i] |= ways[via];
        }
      }
    }
    for (int i = 0; i < SESSIONS; i++) {
      set |= ways[i] & (1 << i);
    }
    return set;
  }

  private Session greatest(int set) {
    Session best = sessions[0];
    boolean isAny = false;
    for (int i = 0; i < SESSIONS; i++) {
      boolean isIn = (set & (1 << i)) != 0;
      if (isIn && (!isAny || sessions[i].number > best.number)) {
        best = sessions[i];
        isAny = true;
      }
    }
    return best;
  }

  // ---- tables

  private void define(Session s) {
    Tree tree = s.tree;
    if (isNotNow(tree) || !isTable(tree.table)) {
      s.tellError(NOT_NOW, NONE);
      return;
    }
    Table t = tables[tree.table];
    if (tree.verb == CREATE) {
      t.creation.load(tree.tokens, tree.size);
      read(t.creation);
      t.create();
    } else if (tree.verb == DROP) {
      t.columns = 0;
      committed.clearTable(tree.table);
      store.drop(tree.table);
    } else {
      t.addIndex(tree.get(tree.list, N_ARG));
    }
    if (tree.verb != INDEX) {
      witness.forget();
    }
    store.secure(store.records);
    s.tell(DONE, 0, 0);
  }

  private boolean isNotNow(Tree tree) {
    if (countSessions(false) > 0 || !isTable(tree.table)) {
      return true;
    }
    Table t = tables[tree.table];
    if (tree.verb == CREATE) {
      return t.columns > 0;
    }
    return tree.verb == DROP ? referringColumns(tree.table) > 0 : t.hasIndex(tree.get(tree.list, N_ARG));
  }

  private int referringColumns(int table) {
    int many = 0;
    for (int t = 0; t < TABLES; t++) {
      for (int c = 0; c < tables[t].columns && c < COLUMNS; c++) {
        many += tables[t].refersTo[c] == table ? 1 : 0;
      }
    }
    return many;
  }

  private int countSessions(boolean isWaiting) {
    int many = 0;
    for (int i = 0; i < SESSIONS; i++) {
      boolean isCounted = isWaiting ? sessions[i].turn != 0 : sessions[i].number != 0;
      many += isCounted ? 1 : 0;
    }
    return many;
  }

  private int lowest() {
    int least = store.last;
    for (int i = 0; i < SESSIONS; i++) {
      Session s = sessions[i];
      if (s.number != 0 && s.level == SNAPSHOT && s.began < least) {
        least = s.began;
      }
    }
    return least;
  }

  // ---- texts

  private void writeTokens(int[] tokens, int count) {
    for (int i = 0; i < count && i < tokens.length; i++) {
      if (i > 0) {
        text.append(' ');
      }
      if (tokens[i] >= NUMBERS) {
        text.append(tokens[i] - NUMBERS);
      } else {
        writeWord(tokens[i]);
      }
    }
  }

  private void writeWord(int token) {
    int number = 0;
    for (int i = 0; i < WORDS.length() && number <= token; i++) {
      char sign = WORDS.charAt(i);
      if (sign == ' ') {
        number++;
      } else if (number == token) {
        text.append(sign);
      }
    }
  }

  private void writeValue(int value, boolean isFirst) {
    if (!isFirst) {
      text.append(',');
    }
    if (value == NULL) {
      text.append('-');
    } else {
      text.append(value);
    }
  }

  private void writeAnswer(Rows rows) {
    for (int r = 0; r < rows.count; r++) {
      if (r > 0) {
        text.append(';');
      }
      for (int c = 0; c < rows.width; c++) {
        writeValue(rows.at(r, c), c == 0);
      }
    }
  }

  private void writeTable(int table, Image image) {
    boolean isFirst = true;
    for (int k = 0; k < KEYS; k++) {
      if (image.holds(table, k)) {
        if (!isFirst) {
          text.append(';');
        }
        isFirst = false;
        for (int c = 0; c < tables[table].columns; c++) {
          writeValue(image.cellAt(table, k, c), c == 0);
        }
      }
    }
  }

  private void writeVersions(int table, int key) {
    Rows all = store.versions;
    boolean isFirst = true;
    int v = store.firstOf(table, key);
    for (int i = 0; i < all.count && v != NONE; i++) {
      if (all.at(v, V_STATE) == KEPT) {
        if (!isFirst) {
          text.append(' ');
        }
        isFirst = false;
        text.append(all.at(v, V_COMMIT)).append(':');
        writeVersion(v, tables[table].columns);
      }
      v = all.at(v, V_NEXT);
    }
  }

  private void writeVersion(int version, int columns) {
    if (store.versions.at(version, V_ROW) == 0) {
      text.append("gone");
      return;
    }
    for (int c = 0; c < columns; c++) {
      writeValue(store.versions.at(version, V_CELLS + c), c == 0);
    }
  }

  private void writeOrder() {
    for (int i = 0; i < serials.count; i++) {
      if (i > 0) {
        text.append(' ');
      }
      text.append(serials.at(i, 0));
    }
  }

  private void writeWaits() {
    int before = 0;
    for (int i = 0; i < SESSIONS; i++) {
      int session = nextWaiting(before);
      if (session == NONE) {
        return;
      }
      if (i > 0) {
        text.append(' ');
      }
      text.append(session).append('>');
      int set = blockersOf(session, sessions[session].tree);
      boolean isFirst = true;
      for (int o = 0; o < SESSIONS; o++) {
        if ((set & (1 << o)) != 0) {
          writeValue(o, isFirst);
          isFirst = false;
        }
      }
      before = sessions[session].turn;
    }
  }

  // ---- what is held

  /** ROWS of all TABLES, or what a transaction has changed: then a touched key without a row is GONE. */
  private static final class Image {
    private final int[] has = new int[TABLES];
    private final int[] touched = new int[TABLES];
    private final int[] cells = new int[TABLES * KEYS * COLUMNS];

    void clear() {
      Arrays.fill(has, 0);
      Arrays.fill(touched, 0);
    }

    void clearTable(int table) {
      if (table >= 0 && table < TABLES) {
        has[table] = 0;
        touched[table] = 0;
      }
    }

    void copyFrom(Image other) {
      System.arraycopy(other.has, 0, has, 0, TABLES);
      System.arraycopy(other.touched, 0, touched, 0, TABLES);
      System.arraycopy(other.cells, 0, cells, 0, cells.length);
    }

    boolean holds(int table, int key) {
      boolean isThere = table >= 0 && table < TABLES && key >= 0 && key < KEYS;
      return isThere && (has[table] & (1 << key)) != 0;
    }

    int cellAt(int table, int key, int column) {
      boolean isThere = table >= 0 && table < TABLES && key >= 0 && key < KEYS;
      return isThere && column >= 0 && column < COLUMNS ? cells[(table * KEYS + key) * COLUMNS + column] : NULL;
    }

    /** Puts a row that stands in an array; its other columns are NULL, so that like rows are alike. */
    void put(int table, int key, int[] from, int start, int width) {
      if (table < 0 || table >= TABLES || key < 0 || key >= KEYS) {
        return;
      }
      int to = (table * KEYS + key) * COLUMNS;
      for (int c = 0; c < COLUMNS; c++) {
        boolean isGiven = c < width && start >= 0 && start + c < from.length;
        cells[to + c] = isGiven ? from[start + c] : NULL;
      }
      has[table] |= 1 << key;
    }

    void remove(int table, int keys) {
      if (table >= 0 && table < TABLES) {
        has[table] &= ~keys;
      }
    }

    void touch(int table, int keys) {
      if (table >= 0 && table < TABLES) {
        touched[table] |= keys;
      }
    }

    void lay(Image changes) {
      for (int t = 0; t < TABLES; t++) {
        int keys = changes.touched[t];
        has[t] = has[t] & ~keys | changes.has[t] & keys;
        for (int k = 0; k < KEYS && keys != 0; k++) {
          if ((keys & (1 << k)) != 0) {
            int spot = (t * KEYS + k) * COLUMNS;
            System.arraycopy(changes.cells, spot, cells, spot, COLUMNS);
          }
        }
      }
    }

    int keysWith(int table, int column, int value) {
      int set = 0;
      for (int k = 0; k < KEYS; k++) {
        boolean isIt = holds(table, k) && cellAt(table, k, column) == value;
        set |= isIt ? 1 << k : 0;
      }
      return set;
    }

    boolean isLikeIn(int table, Image other) {
      if (table < 0 || table >= TABLES || has[table] != other.has[table]) {
        return false;
      }
      for (int k = 0; k < KEYS; k++) {
        for (int c = 0; c < COLUMNS && holds(table, k); c++) {
          if (cellAt(table, k, c) != other.cellAt(table, k, c)) {
            return false;
          }
        }
      }
      return true;
    }

    boolean isLike(Image other) {
      for (int t = 0; t < TABLES; t++) {
        if (touched[t] != other.touched[t] || !isLikeIn(t, other)) {
          return false;
        }
      }
      return true;
    }
  }

  /** Rows of numbers, one behind the other; kept and used again, for the room is small. */
  private static final class Rows {
    private int[] cells = new int[CELLS_FIRST];
    private int width = 1;
    private int count;

    void reset(int columns) {
      width = columns < 1 ? 1 : columns;
      count = 0;
    }

    /** The number of a new row, or NONE beyond all that a run can need. */
    int add() {
      int need = (count + 1) * width;
      if (need > CELLS_MOST) {
        return NONE;
      }
      if (need > cells.length) {
        cells = Arrays.copyOf(cells, need * 2);
      }
      count++;
      return count - 1;
    }

    int at(int row, int column) {
      boolean isThere = row >= 0 && row < count && column >= 0 && column < width;
      return isThere ? cells[row * width + column] : NULL;
    }

    void set(int row, int column, int value) {
      if (row >= 0 && row < count && column >= 0 && column < width) {
        cells[row * width + column] = value;
      }
    }

    void copyFrom(Rows other) {
      int need = other.count * other.width;
      if (need > cells.length) {
        cells = new int[need];
      }
      System.arraycopy(other.cells, 0, cells, 0, need);
      width = other.width;
      count = other.count;
    }

    /** Numbers that tell rows of like values from others, but for a rare chance. */
    long hash() {
      long h = width * 31L + count;
      for (int i = 0; i < count * width && i < cells.length; i++) {
        h = h * 1000003L + cells[i];
      }
      return h;
    }
  }

  private static final class Table {
    private int columns;
    private final boolean[] isNotNull = new boolean[COLUMNS];
    private final boolean[] isIndexed = new boolean[COLUMNS];
    private final int[] refersTo = new int[COLUMNS];
    private final Tree creation = new Tree();

    void create() {
      columns = creation.listCount < COLUMNS ? creation.listCount : COLUMNS;
      int node = creation.list;
      for (int c = 0; c < columns; c++) {
        isNotNull[c] = creation.get(node, N_MARK) == 1;
        refersTo[c] = creation.get(node, N_MORE);
        isIndexed[c] = false;
        node = creation.get(node, N_NEXT);
      }
    }

    void addIndex(int column) {
      if (column >= 0 && column < columns && column < COLUMNS) {
        isIndexed[column] = true;
      }
    }

    boolean hasIndex(int column) {
      return column >= 0 && column < columns && column < COLUMNS && isIndexed[column];
    }

    int countIndexes() {
      int many = 0;
      for (int c = 0; c < columns && c < COLUMNS; c++) {
        many += isIndexed[c] ? 1 : 0;
      }
      return many;
    }
  }

  /** What is told of a session, and its transaction, if there is one. */
  private static final class Session {
    private final int[] typed = new int[TOKENS_MOST];
    private int typedCount;
    private final Tree tree = new Tree();
    private final int[] outcome = new int[R_ALL];
    private final Rows told = new Rows();
    private int turn;
    private int number;
    private int level;
    private boolean isAuto;
    private int began;
    private int records;
    private final Image changes = new Image();
    private final Image start = new Image();
    private final int[] read = new int[TABLES];
    private final int[] write = new int[TABLES];
    private final Image[] saved = new Image[POINTS];
    private final int[] savedTurn = new int[POINTS];
    private final int[] savedRecords = new int[POINTS];
    private int lastPoint;
    private Rows trail = new Rows();

    Session() {
      for (int k = 0; k < POINTS; k++) {
        saved[k] = new Image();
      }
      outcome[R_PLACE] = NONE;
    }

    void type(int token) {
      if (token != NONE && typedCount < TOKENS_MOST) {
        typed[typedCount] = token;
        typedCount++;
      }
    }

    void tell(int kind, int rows, int columns) {
      outcome[R_KIND] = kind;
      outcome[R_ROWS] = rows;
      outcome[R_WIDTH] = columns;
      outcome[R_ERROR] = 0;
      outcome[R_PLACE] = NONE;
      told.reset(1);
    }

    void tellError(int error, int place) {
      tell(ERROR, 0, 0);
      outcome[R_ERROR] = error;
      outcome[R_PLACE] = place;
    }

    void forgetResult() {
      tell(0, 0, 0);
    }

    void open(int itsNumber, int itsLevel, boolean isItsOwn, int lastCommit, Image committed) {
      number = itsNumber;
      level = itsLevel;
      isAuto = isItsOwn;
      began = lastCommit;
      if (itsLevel == SNAPSHOT) {
        start.copyFrom(committed);
      }
    }

    void close() {
      number = 0;
      level = LATEST;
      isAuto = false;
      began = 0;
      records = 0;
      changes.clear();
      Arrays.fill(read, 0);
      Arrays.fill(write, 0);
      Arrays.fill(savedTurn, 0);
      lastPoint = 0;
      trail.reset(1);
    }

    void clear() {
      close();
      turn = 0;
      typedCount = 0;
      forgetResult();
    }

    int countChanged() {
      int many = 0;
      for (int t = 0; t < TABLES; t++) {
        many += Integer.bitCount(changes.touched[t]);
      }
      return many;
    }

    int pointSet() {
      int set = 0;
      for (int k = 0; k < POINTS; k++) {
        set |= savedTurn[k] != 0 ? 1 << k : 0;
      }
      return set;
    }

    void setPoint(int k) {
      if (k >= 0 && k < POINTS) {
        lastPoint++;
        saved[k].copyFrom(changes);
        savedTurn[k] = lastPoint;
        savedRecords[k] = records;
      }
    }

    /** How many records are taken back. */
    int goBack(int k) {
      if (k < 0 || k >= POINTS) {
        return 0;
      }
      int many = records - savedRecords[k];
      records = savedRecords[k];
      changes.copyFrom(saved[k]);
      for (int i = 0; i < POINTS; i++) {
        if (savedTurn[i] > savedTurn[k]) {
          savedTurn[i] = 0;
        }
      }
      return many;
    }

    void note(int step, int k) {
      trail.set(trail.add(), 0, step);
      trail.set(trail.add(), 0, k);
    }

    void noteRun() {
      note(RAN, tree.size);
      for (int i = 0; i < tree.size; i++) {
        trail.set(trail.add(), 0, tree.tokens[i]);
      }
      for (int i = 0; i < R_ALL; i++) {
        trail.set(trail.add(), 0, outcome[i]);
      }
      long h = told.hash();
      trail.set(trail.add(), 0, (int) h);
      trail.set(trail.add(), 0, (int) (h >>> 32));
    }
  }

  /** VERSIONS, and the records on the disc: what would be found behind a crash. */
  private static final class Disc {
    private final Rows versions = new Rows();
    private final int[] firsts = new int[TABLES * KEYS];
    private final int[] lasts = new int[TABLES * KEYS];
    private final Rows marks = new Rows();
    private final Image image = new Image();
    private int marksSafe;
    private int records;
    private int safe;
    private int last;
    private int safeLast;
    private boolean isLazy;
    private boolean isOn = true;

    Disc() {
      versions.reset(V_WIDTH);
      marks.reset(2);
      Arrays.fill(firsts, NONE);
      Arrays.fill(lasts, NONE);
    }

    int firstOf(int table, int key) {
      int spot = table * KEYS + key;
      return spot >= 0 && spot < firsts.length ? firsts[spot] : NONE;
    }

    /** Puts a version behind the others of its key. */
    private void chain(int version) {
      int spot = versions.at(version, V_TABLE) * KEYS + versions.at(version, V_KEY);
      if (spot < 0 || spot >= firsts.length) {
        return;
      }
      if (firsts[spot] == NONE) {
        firsts[spot] = version;
      } else {
        versions.set(lasts[spot], V_NEXT, version);
      }
      lasts[spot] = version;
      versions.set(version, V_NEXT, NONE);
    }

    void addVersions(int table, Image changes, Image committed) {
      for (int k = 0; k < KEYS; k++) {
        boolean isTouched = isTable(table) && (changes.touched[table] & (1 << k)) != 0;
        if (isTouched && (changes.holds(table, k) || committed.holds(table, k))) {
          int v = versions.add();
          versions.set(v, V_COMMIT, last);
          versions.set(v, V_TABLE, table);
          versions.set(v, V_KEY, k);
          versions.set(v, V_ROW, changes.holds(table, k) ? 1 : 0);
          versions.set(v, V_STATE, KEPT);
          for (int c = 0; c < COLUMNS; c++) {
            versions.set(v, V_CELLS + c, changes.cellAt(table, k, c));
          }
          chain(v);
        }
      }
    }

    void recordCommit() {
      records++;
      int mark = marks.add();
      marks.set(mark, 0, last);
      marks.set(mark, 1, records);
      if (!isLazy) {
        secure(records);
      }
    }

    /** So many records are safe from now on. */
    void secure(int many) {
      safe = many;
      int before = safeLast;
      for (; marksSafe < marks.count && marks.at(marksSafe, 1) <= safe; marksSafe++) {
        safeLast = marks.at(marksSafe, 0);
      }
      if (marksSafe >= marks.count) {
        marks.reset(2);
        marksSafe = 0;
      }
      if (safeLast > before) {
        settle(before);
      }
    }

    /** Brings the commits behind that one into what would be found. */
    private void settle(int before) {
      int from = versions.count;
      for (int i = versions.count - 1; i >= 0 && versions.at(i, V_COMMIT) > before; i--) {
        from = i;
      }
      for (int i = from; i < versions.count && versions.at(i, V_COMMIT) <= safeLast; i++) {
        int table = versions.at(i, V_TABLE);
        int key = versions.at(i, V_KEY);
        if (versions.at(i, V_ROW) == 1) {
          image.put(table, key, versions.cells, i * V_WIDTH + V_CELLS, COLUMNS);
        } else {
          image.remove(table, 1 << key);
        }
      }
    }

    /** The last version of a key whose commit is not above that one; also of those that vacuum took. */
    private int lastBy(int table, int key, int commit) {
      int best = NONE;
      int v = firstOf(table, key);
      for (int i = 0; i < versions.count && v != NONE && versions.at(v, V_COMMIT) <= commit; i++) {
        best = v;
        v = versions.at(v, V_NEXT);
      }
      return best;
    }

    boolean isNewer(int table, int keys, int commit) {
      for (int k = 0; k < KEYS; k++) {
        int spot = table * KEYS + k;
        boolean isMeant = isTable(table) && (keys & (1 << k)) != 0 && lasts[spot] != NONE;
        if (isMeant && versions.at(lasts[spot], V_COMMIT) > commit) {
          return true;
        }
      }
      return false;
    }

    int countVersions(int table) {
      int many = 0;
      for (int i = 0; i < versions.count; i++) {
        boolean isIt = versions.at(i, V_TABLE) == table && versions.at(i, V_STATE) == KEPT;
        many += isIt ? 1 : 0;
      }
      return many;
    }

    /** Vacuums a key; how many versions went. */
    int clean(int table, int key, int least) {
      int stay = lastBy(table, key, least);
      int many = 0;
      int v = stay == NONE ? NONE : firstOf(table, key);
      for (int i = 0; i < versions.count && v != NONE; i++) {
        boolean isOld = v != stay || versions.at(v, V_ROW) == 0;
        if (isOld && versions.at(v, V_STATE) == KEPT) {
          versions.set(v, V_STATE, VACUUMED);
          many++;
        }
        v = v == stay ? NONE : versions.at(v, V_NEXT);
      }
      return many;
    }

    void drop(int table) {
      for (int i = 0; i < versions.count; i++) {
        if (versions.at(i, V_TABLE) == table) {
          versions.set(i, V_STATE, REMOVED);
        }
      }
      image.clearTable(table);
      compact();
    }

    private void compact() {
      Arrays.fill(firsts, NONE);
      Arrays.fill(lasts, NONE);
      int kept = 0;
      for (int i = 0; i < versions.count; i++) {
        if (versions.at(i, V_STATE) != REMOVED) {
          System.arraycopy(versions.cells, i * V_WIDTH, versions.cells, kept * V_WIDTH, V_WIDTH);
          chain(kept);
          kept++;
        }
      }
      versions.count = kept;
    }

    void fail() {
      last = safeLast;
      isOn = false;
    }

    void recoverAll() {
      for (int i = 0; i < versions.count; i++) {
        int stay = lastBy(versions.at(i, V_TABLE), versions.at(i, V_KEY), safeLast);
        boolean isKept = i == stay && versions.at(i, V_ROW) == 1;
        versions.set(i, V_STATE, isKept ? KEPT : REMOVED);
      }
      compact();
      marks.reset(2);
      marksSafe = 0;
      records = 0;
      safe = 0;
      isOn = true;
    }

    /** Whether what would be found is what the versions of the safe commits tell. */
    boolean isFoundAgain() {
      for (int t = 0; t < TABLES; t++) {
        for (int k = 0; k < KEYS; k++) {
          int v = lastBy(t, k, safeLast);
          boolean isRow = v != NONE && versions.at(v, V_ROW) == 1;
          boolean isSame = isRow == image.holds(t, k);
          for (int c = 0; c < COLUMNS && isRow && isSame; c++) {
            isSame = image.cellAt(t, k, c) == versions.at(v, V_CELLS + c);
          }
          if (!isSame) {
            return false;
          }
        }
      }
      return true;
    }
  }

  // ---- what is typed, read

  private static final class Query {
    private int place;
    private int use;
    private int parent;
    /** The part of what is around it in which it stands, and whether in an aggregate there. */
    private int clause;
    private boolean isInner;
    private int level;
    private boolean isStar;
    private int what;
    private int whats;
    private int sources;
    private final int[] source = new int[SOURCES * S_WIDTH];
    private int where;
    private int group;
    private int groups;
    private int having;
    private int order;
    private int orders;
    private int limit;
    private boolean isGrouped;

    void reset() {
      isStar = false;
      what = NONE;
      whats = 0;
      sources = 0;
      where = NONE;
      group = NONE;
      groups = 0;
      having = NONE;
      order = NONE;
      orders = 0;
      limit = NONE;
      isGrouped = false;
    }

    void addSource(int table, int itsPlace, boolean isLeft) {
      if (sources < SOURCES) {
        int spot = sources * S_WIDTH;
        source[spot + S_TABLE] = table;
        source[spot + S_PLACE] = itsPlace;
        source[spot + S_ON] = NONE;
        source[spot + S_LEFT] = isLeft ? 1 : 0;
        sources++;
      }
    }

    int sourceAt(int number, int field) {
      boolean isThere = number >= 0 && number < sources && number < SOURCES && field >= 0 && field < S_WIDTH;
      return isThere ? source[number * S_WIDTH + field] : NONE;
    }

    void putOn(int number, int node) {
      if (number >= 0 && number < SOURCES) {
        source[number * S_WIDTH + S_ON] = node;
      }
    }
  }

  /** A statement, read into nodes, with what is wrong with it. */
  private static final class Tree {
    private final int[] tokens = new int[TOKENS_MOST];
    private int size;
    private final int[] nodes = new int[NODES_MOST * N_WIDTH];
    private int count;
    private final Query[] queries = new Query[QUERIES_MOST];
    private int queryCount;
    private int verb;
    private int table;
    /** The first one of the values, of the sets, or of the specs. */
    private int list;
    private int listCount;
    /** The condition of update and delete, or the check. */
    private int cond;
    private int fault;
    private int faultPlace;

    Tree() {
      for (int i = 0; i < QUERIES_MOST; i++) {
        queries[i] = new Query();
      }
      table = NONE;
      list = NONE;
      cond = NONE;
      faultPlace = NONE;
    }

    void load(int[] from, int many) {
      size = many < TOKENS_MOST ? many : TOKENS_MOST;
      for (int i = 0; i < size && i < from.length; i++) {
        tokens[i] = from[i];
      }
    }

    void forget() {
      count = 0;
      queryCount = 0;
      verb = NONE;
      table = NONE;
      list = NONE;
      listCount = 0;
      cond = NONE;
      fault = 0;
      faultPlace = NONE;
    }

    int tokenAt(int place) {
      return place >= 0 && place < size && place < TOKENS_MOST ? tokens[place] : NONE;
    }

    /** A node that stands at that place in that part of that query. */
    int add(int kind, int place, int query, int clause, boolean isInner) {
      if (count < 0 || count >= NODES_MOST) {
        return NONE;
      }
      int spot = count * N_WIDTH;
      for (int i = 0; i < N_WIDTH; i++) {
        nodes[spot + i] = NONE;
      }
      nodes[spot + N_KIND] = kind;
      nodes[spot + N_PLACE] = place;
      nodes[spot + N_QUERY] = query;
      nodes[spot + N_CLAUSE] = clause;
      nodes[spot + N_INNER] = isInner ? 1 : 0;
      count++;
      return count - 1;
    }

    int get(int node, int field) {
      boolean isThere = node >= 0 && node < count && field >= 0 && field < N_WIDTH;
      return isThere ? nodes[node * N_WIDTH + field] : NONE;
    }

    void put(int node, int field, int value) {
      if (node >= 0 && node < count && field >= 0 && field < N_WIDTH) {
        nodes[node * N_WIDTH + field] = value;
      }
    }

    int countFrom(int first) {
      int many = 0;
      for (int node = first; node != NONE && many < NODES_MOST; node = get(node, N_NEXT)) {
        many++;
      }
      return many;
    }

    int addQuery() {
      if (queryCount >= QUERIES_MOST) {
        return NONE;
      }
      queries[queryCount].reset();
      queryCount++;
      return queryCount - 1;
    }

    Query queryAt(int number) {
      return number >= 0 && number < queryCount && number < QUERIES_MOST ? queries[number] : null;
    }

    // -- what is wrong with names, and what is misplaced

    private void blame(int error, int place) {
      if (fault == 0 || place < faultPlace || place == faultPlace && error < fault) {
        fault = error;
        faultPlace = place;
      }
    }

    private static int columnsOf(Table[] tables, int table) {
      return isTable(table) && table < tables.length ? tables[table].columns : 0;
    }

    void judge(Table[] tables) {
      int columns = columnsOf(tables, table);
      if (verb != SELECT && verb != CREATE && columns == 0) {
        blame(NAME, 1);
      }
      if (verb == INSERT && list != NONE && listCount != columns) {
        blame(MISPLACED, 2);
      }
      judgeList(tables, columns);
      for (int i = 0; i < queryCount; i++) {
        judgeQuery(tables, queries[i], columns);
      }
      for (int node = 0; node < count; node++) {
        int kind = get(node, N_KIND);
        if (kind == K_REF || kind == K_OUTER) {
          judgeRef(tables, node, kind == K_OUTER);
        } else if (kind == K_AGGREGATE) {
          boolean isMeant = queryAt(get(node, N_QUERY)) != null && isTold(get(node, N_CLAUSE));
          if (!isMeant || get(node, N_INNER) == 1) {
            blame(MISPLACED, get(node, N_PLACE));
          }
        }
      }
    }

    private static boolean isTold(int clause) {
      return clause == IN_WHAT || clause == IN_HAVING || clause == IN_ORDER;
    }

    /** The sets, the specs, or the column of an index. */
    private void judgeList(Table[] tables, int columns) {
      int node = list;
      int names = 0;
      for (int i = 0; i < NODES_MOST && node != NONE && verb != INSERT; i++) {
        int column = get(node, N_ARG);
        int place = get(node, N_PLACE);
        int bit = 1 << (column & 3);
        boolean isNamed = verb == CREATE ? column == i && i < COLUMNS : column < columns;
        if (!isNamed) {
          blame(NAME, place);
        }
        if (verb == UPDATE && (names & bit) != 0) {
          blame(MISPLACED, place);
        }
        names |= bit;
        int refers = verb == CREATE ? get(node, N_MORE) : NONE;
        if (refers != NONE && (refers == table || columnsOf(tables, refers) == 0)) {
          blame(NAME, place + 2 + get(node, N_MARK));
        }
        node = get(node, N_NEXT);
      }
    }

    private void judgeQuery(Table[] tables, Query q, int columns) {
      int width = 0;
      for (int s = 0; s < q.sources; s++) {
        int own = columnsOf(tables, q.sourceAt(s, S_TABLE));
        if (own == 0) {
          blame(NAME, q.sourceAt(s, S_PLACE));
        }
        width += own;
      }
      width = q.isStar ? width : q.whats;
      boolean isDeep = q.level >= LEVELS || q.clause == IN_VALUES || q.clause == IN_CHECK;
      boolean isWide = (q.use == AS_VALUE || q.use == AS_SET) && (q.isStar || q.whats != 1);
      boolean isUnfit = q.use == AS_STATEMENT && verb == INSERT && width != columns;
      if (isDeep || isWide || isUnfit) {
        blame(MISPLACED, q.place);
      }
      if (q.isStar && q.isGrouped) {
        blame(MISPLACED, q.place + 1);
      }
    }

    private void judgeRef(Table[] tables, int node, boolean isOuter) {
      int place = get(node, N_PLACE);
      int number = get(node, N_QUERY);
      int clause = get(node, N_CLAUSE);
      boolean isInner = get(node, N_INNER) == 1;
      if (isOuter) {
        Query own = queryAt(number);
        boolean isAlone = own == null || own.parent == NONE && verb != UPDATE && verb != DELETE;
        if (own == null || isAlone) {
          blame(NAME, place);
          return;
        }
        if (clause == IN_GROUP) {
          blame(MISPLACED, place);
        }
        number = own.parent;
        clause = own.clause;
        isInner = own.isInner;
      }
      int source = get(node, N_ARG);
      int column = get(node, N_MORE);
      if (column >= columnsAround(tables, number, clause, source)) {
        blame(NAME, place);
      }
      Query q = queryAt(number);
      boolean isHeld = q != null && q.isGrouped && isTold(clause) && !isInner;
      if (q != null && isHeld && !isInGroup(q, source, column)) {
        blame(MISPLACED, place);
      }
    }

    /** How many columns that source has where that part of a query, or of the statement, stands. */
    private int columnsAround(Table[] tables, int number, int clause, int source) {
      Query q = queryAt(number);
      if (q == null) {
        boolean isRow = verb == UPDATE || verb == DELETE;
        int columns = isRow ? columnsOf(tables, table) : verb == CREATE ? listCount : 0;
        return source == 0 ? columns : 0;
      }
      boolean isAhead = clause <= IN_ON || source <= clause - IN_ON;
      return isAhead ? columnsOf(tables, q.sourceAt(source, S_TABLE)) : 0;
    }

    private boolean isInGroup(Query q, int source, int column) {
      int node = q.group;
      for (int i = 0; i < q.groups && node != NONE; i++) {
        boolean isSame = get(node, N_ARG) == source && get(node, N_MORE) == column;
        if (isSame && get(node, N_KIND) == K_REF) {
          return true;
        }
        node = get(node, N_NEXT);
      }
      return false;
    }
  }

  /** Reads tokens from the left, and stops at the first one that can not stand. */
  private static final class Parser {
    private Tree tree;
    private int at;
    private int broken;
    private int query;
    private int clause;
    private boolean isInner;

    Parser(Tree first) {
      tree = first;
    }

    void parse(Tree statement) {
      tree = statement;
      tree.forget();
      at = 0;
      broken = NONE;
      query = NONE;
      clause = 0;
      isInner = false;
      int verb = peek();
      tree.verb = verb;
      if (verb == SELECT) {
        readQuery(0, AS_STATEMENT);
      } else if (verb >= INSERT && verb <= INDEX && verb != VALUES && verb != SET) {
        at++;
        tree.table = readTable();
        switch (verb) {
          case INSERT: readInsert(); break;
          case UPDATE: readSets(); break;
          case CREATE: readSpecs(); break;
          case INDEX: tree.list = readColumn(K_SPEC); break;
          default: break;
        }
      } else {
        fail();
      }
      if (verb == UPDATE || verb == DELETE) {
        clause = IN_WHERE;
        tree.cond = take(WHERE) ? readCond(0) : NONE;
      }
      if (broken == NONE && at < tree.size) {
        broken = at;
      }
      if (broken != NONE) {
        tree.fault = SYNTAX;
        tree.faultPlace = broken;
      }
    }

    /** The next token; NONE at the end, and behind what can not stand. */
    private int peek() {
      boolean isNext = broken == NONE && at >= 0 && at < tree.size && at < TOKENS_MOST;
      return isNext ? tree.tokens[at] : NONE;
    }

    private void fail() {
      if (broken == NONE) {
        broken = at;
      }
    }

    private boolean take(int token) {
      boolean isNext = broken == NONE && at >= 0 && at < tree.size && at < TOKENS_MOST;
      isNext = isNext && tree.tokens[at] == token;
      at += isNext ? 1 : 0;
      return isNext;
    }

    private void expect(int token) {
      if (peek() == token) {
        at++;
      } else if (broken == NONE) {
        broken = at;
      }
    }

    /** Opens what counts for the nesting. */
    private boolean open(int token, int depth) {
      boolean isNext = peek() == token && depth < NESTS;
      if (isNext) {
        at++;
      } else if (broken == NONE) {
        broken = at;
      }
      return isNext;
    }

    private int readTable() {
      int table = peek() - TABLE_0;
      if (table >= 0 && table < TABLES) {
        at++;
        return table;
      }
      if (broken == NONE) {
        broken = at;
      }
      return NONE;
    }

    /** A node for a column behind set, in index or create. */
    private int readColumn(int kind) {
      int column = peek() - COLUMN_0;
      if (column < 0 || column >= COLUMNS) {
        fail();
        return NONE;
      }
      int node = tree.add(kind, at, query, clause, isInner);
      tree.put(node, N_ARG, column);
      at++;
      return node;
    }

    private void readInsert() {
      if (peek() == SELECT) {
        readQuery(0, AS_STATEMENT);
        return;
      }
      clause = IN_VALUES;
      expect(VALUES);
      expect(OPEN);
      tree.list = readExprs(0);
      tree.listCount = tree.countFrom(tree.list);
      expect(CLOSE);
    }

    private void readSets() {
      clause = IN_SET;
      expect(SET);
      int last = NONE;
      for (int i = 0; i < TOKENS_MOST; i++) {
        int node = readColumn(K_SET);
        expect(EQUAL);
        tree.put(node, N_FIRST, readExpr(0));
        if (i == 0) {
          tree.list = node;
        }
        tree.put(last, N_NEXT, node);
        last = node;
        if (!take(COMMA)) {
          return;
        }
      }
    }

    private void readSpecs() {
      expect(OPEN);
      int last = NONE;
      for (int i = 0; i < TOKENS_MOST; i++) {
        int node = readColumn(K_SPEC);
        tree.put(node, N_MARK, take(NOTNULL) ? 1 : 0);
        tree.put(node, N_MORE, take(REFS) ? readTable() : NONE);
        if (i == 0) {
          tree.list = node;
        }
        tree.put(last, N_NEXT, node);
        last = node;
        tree.listCount = i + 1;
        if (!take(COMMA)) {
          break;
        }
      }
      expect(CLOSE);
      clause = IN_CHECK;
      tree.cond = take(CHECK) ? readCond(0) : NONE;
    }

    private int readQuery(int depth, int use) {
      int number = tree.addQuery();
      Query q = tree.queryAt(number);
      if (q == null) {
        fail();
        return NONE;
      }
      int wasQuery = query;
      int wasClause = clause;
      boolean wasInner = isInner;
      Query around = tree.queryAt(wasQuery);
      q.place = at;
      q.use = use;
      q.parent = wasQuery;
      q.clause = wasClause;
      q.isInner = wasInner;
      q.level = use == AS_STATEMENT ? 0 : around == null ? 1 : around.level + 1;
      query = number;
      isInner = false;
      expect(SELECT);
      clause = IN_WHAT;
      if (take(STAR)) {
        q.isStar = true;
      } else {
        q.what = readExprs(depth);
        q.whats = tree.countFrom(q.what);
      }
      expect(FROM);
      readSources(q, depth);
      readTail(q, depth);
      query = wasQuery;
      clause = wasClause;
      isInner = wasInner;
      return number;
    }

    private void readSources(Query q, int depth) {
      boolean isLeft = false;
      for (int i = 0; i < TOKENS_MOST; i++) {
        if (q.sources >= SOURCES) {
          fail();
          return;
        }
        int place = at;
        q.addSource(readTable(), place, isLeft);
        if (i > 0) {
          expect(ON);
          clause = IN_ON + i;
          q.putOn(i, readCond(depth));
        }
        int next = peek();
        if (next != JOIN && next != LEFT) {
          return;
        }
        at++;
        isLeft = next == LEFT;
      }
    }

    private void readTail(Query q, int depth) {
      if (take(WHERE)) {
        clause = IN_WHERE;
        q.where = readCond(depth);
      }
      if (take(GROUP)) {
        clause = IN_GROUP;
        q.isGrouped = true;
        q.group = readRef();
        int last = q.group;
        for (int i = 0; i < TOKENS_MOST && take(COMMA); i++) {
          int next = readRef();
          tree.put(last, N_NEXT, next);
          last = next;
        }
        q.groups = tree.countFrom(q.group);
      }
      if (take(HAVING)) {
        clause = IN_HAVING;
        q.isGrouped = true;
        q.having = readCond(depth);
      }
      if (take(ORDER)) {
        clause = IN_ORDER;
        q.order = readItems(depth);
        q.orders = tree.countFrom(q.order);
      }
      if (take(LIMIT)) {
        int number = peek() - NUMBERS;
        if (number < 0) {
          fail();
        } else {
          q.limit = number;
          at++;
        }
      }
    }

    private int readItems(int depth) {
      int first = readExpr(depth);
      tree.put(first, N_MARK, take(DESC) ? DESC : NONE);
      int last = first;
      for (int i = 0; i < TOKENS_MOST && take(COMMA); i++) {
        int next = readExpr(depth);
        tree.put(next, N_MARK, take(DESC) ? DESC : NONE);
        tree.put(last, N_NEXT, next);
        last = next;
      }
      return first;
    }

    private int readExprs(int depth) {
      int first = readExpr(depth);
      int last = first;
      for (int i = 0; i < TOKENS_MOST && take(COMMA); i++) {
        int next = readExpr(depth);
        tree.put(last, N_NEXT, next);
        last = next;
      }
      return first;
    }

    private int readExpr(int depth) {
      return readChain(depth, K_SUM, PLUS, MINUS);
    }

    /** Terms with + and - between, or factors with * and /; one alone needs no node of its own. */
    private int readChain(int depth, int kind, int one, int other) {
      int first = kind == K_SUM ? readChain(depth, K_PRODUCT, STAR, SLASH) : readFactor(depth);
      if (peek() != one && peek() != other) {
        return first;
      }
      int chain = tree.add(kind, at, query, clause, isInner);
      tree.put(chain, N_FIRST, first);
      int last = first;
      for (int i = 0; i < TOKENS_MOST && (peek() == one || peek() == other); i++) {
        int sign = peek();
        at++;
        int next = kind == K_SUM ? readChain(depth, K_PRODUCT, STAR, SLASH) : readFactor(depth);
        tree.put(next, N_MARK, sign);
        tree.put(last, N_NEXT, next);
        last = next;
      }
      return chain;
    }

    private int readFactor(int depth) {
      int token = peek();
      int place = at;
      if (token >= NUMBERS || token == NULL_WORD) {
        at++;
        int node = tree.add(K_NUMBER, place, query, clause, isInner);
        tree.put(node, N_ARG, token == NULL_WORD ? NULL : token - NUMBERS);
        return node;
      }
      if (token == MINUS) {
        if (!open(MINUS, depth)) {
          return NONE;
        }
        int node = tree.add(K_NEGATIVE, place, query, clause, isInner);
        tree.put(node, N_FIRST, readFactor(depth + 1));
        return node;
      }
      if (token == OPEN) {
        return readParenthesis(depth);
      }
      if (token >= COUNT && token <= MAX) {
        return readAggregate(depth);
      }
      return readRef();
    }

    private int readParenthesis(int depth) {
      int place = at;
      if (!open(OPEN, depth)) {
        return NONE;
      }
      int node;
      if (peek() == SELECT) {
        node = tree.add(K_SUBQUERY, place, query, clause, isInner);
        tree.put(node, N_MORE, readQuery(depth + 1, AS_VALUE));
      } else {
        node = readExpr(depth + 1);
      }
      expect(CLOSE);
      return node;
    }

    private int readAggregate(int depth) {
      int which = peek();
      int node = tree.add(K_AGGREGATE, at, query, clause, isInner);
      tree.put(node, N_ARG, which);
      Query q = tree.queryAt(query);
      if (q != null && (clause == IN_WHAT || clause == IN_ORDER)) {
        q.isGrouped = true;
      }
      at++;
      if (!open(OPEN, depth)) {
        return node;
      }
      boolean wasInner = isInner;
      isInner = true;
      boolean isAll = which == COUNT && take(STAR);
      tree.put(node, N_FIRST, isAll ? NONE : readExpr(depth + 1));
      isInner = wasInner;
      expect(CLOSE);
      return node;
    }

    private int readRef() {
      int place = at;
      boolean isOuter = take(OUTER);
      int source = peek() - SOURCE_A;
      boolean isNamed = source >= 0 && source < SOURCES;
      at += isNamed ? 1 : 0;
      int column = peek() - COLUMN_0;
      if (column < 0 || column >= COLUMNS) {
        fail();
        return NONE;
      }
      at++;
      int node = tree.add(isOuter ? K_OUTER : K_REF, place, query, clause, isInner);
      tree.put(node, N_ARG, isNamed ? source : 0);
      tree.put(node, N_MORE, column);
      return node;
    }

    private int readCond(int depth) {
      return readParts(depth, OR);
    }

    private int readParts(int depth, int word) {
      int first = word == OR ? readParts(depth, AND) : readNeg(depth);
      if (peek() != word) {
        return first;
      }
      int parts = tree.add(word == OR ? K_OR : K_AND, at, query, clause, isInner);
      tree.put(parts, N_FIRST, first);
      int last = first;
      for (int i = 0; i < TOKENS_MOST && take(word); i++) {
        int next = word == OR ? readParts(depth, AND) : readNeg(depth);
        tree.put(last, N_NEXT, next);
        last = next;
      }
      return parts;
    }

    private int readNeg(int depth) {
      int place = at;
      if (peek() != NOT) {
        return readPrim(depth);
      }
      if (!open(NOT, depth)) {
        return NONE;
      }
      int node = tree.add(K_NOT, place, query, clause, isInner);
      tree.put(node, N_FIRST, readNeg(depth + 1));
      return node;
    }

    private int readPrim(int depth) {
      int place = at;
      int token = peek();
      if (token == BRACKET) {
        if (!open(BRACKET, depth)) {
          return NONE;
        }
        int node = tree.add(K_NEST, place, query, clause, isInner);
        tree.put(node, N_FIRST, readCond(depth + 1));
        expect(UNBRACKET);
        return node;
      }
      if (token == EXISTS) {
        at++;
        int node = tree.add(K_EXISTS, place, query, clause, isInner);
        if (open(OPEN, depth)) {
          tree.put(node, N_MORE, readQuery(depth + 1, AS_EXISTENCE));
          expect(CLOSE);
        }
        return node;
      }
      int left = readExpr(depth);
      token = peek();
      if (token >= EQUAL && token <= MORE_EQUAL) {
        return readCompare(depth, left, place);
      }
      if (token != IS) {
        return readIn(depth, left);
      }
      int node = tree.add(K_IS_NULL, at, query, clause, isInner);
      at++;
      tree.put(node, N_FIRST, left);
      tree.put(node, N_ARG, take(NOT) ? NOT : NONE);
      expect(NULL_WORD);
      return node;
    }

    private int readCompare(int depth, int left, int place) {
      int node = tree.add(K_COMPARE, at, query, clause, isInner);
      tree.put(node, N_ARG, peek());
      at++;
      tree.put(node, N_FIRST, left);
      tree.put(left, N_NEXT, readExpr(depth));
      // Only the very tokens [a] c0 = N limit the keys to be locked, so the tree alone does not tell it.
      int from = tree.tokenAt(place) == SOURCE_A ? place + 1 : place;
      boolean isKeyPart = tree.tokenAt(from) == COLUMN_0 && at - from == 3 && tree.tokenAt(from + 2) >= NUMBERS;
      tree.put(node, N_MORE, isKeyPart ? 1 : 0);
      return node;
    }

    private int readIn(int depth, int left) {
      boolean isNot = take(NOT);
      int place = at;
      expect(IN);
      if (!open(OPEN, depth)) {
        return NONE;
      }
      boolean isQuery = peek() == SELECT;
      int node = tree.add(isQuery ? K_IN_QUERY : K_IN_LIST, place, query, clause, isInner);
      tree.put(node, N_ARG, isNot ? NOT : NONE);
      tree.put(node, N_FIRST, left);
      if (isQuery) {
        tree.put(node, N_MORE, readQuery(depth + 1, AS_SET));
      } else {
        tree.put(left, N_NEXT, readExprs(depth + 1));
      }
      expect(CLOSE);
      return node;
    }
  }

  // ---- what statements mean

  /** Reckons expressions, tests conditions, and answers queries: one, and one within it. */
  private static final class Engine {
    private final Table[] tables;
    private Tree tree;
    private Image view;
    /** The values of the rows that are looked at now: level by level, source by source. */
    private final int[] now = new int[LEVELS * SOURCES * COLUMNS];
    /** Of the group that is looked at now the first one of the joined rows. */
    private final int[] heads = new int[LEVELS];
    private final Rows[] joined = new Rows[LEVELS];
    private final Rows[] links = new Rows[LEVELS];
    private final Rows[] groups = new Rows[LEVELS];
    private final Rows[] picked = new Rows[LEVELS];
    private final Rows[] out = new Rows[LEVELS];
    private final Rows nothing = new Rows();
    private int[] places = new int[CELLS_FIRST];
    private int[] merged = new int[CELLS_FIRST];

    Engine(Table[] all, Tree first, Image seen) {
      tables = all;
      tree = first;
      view = seen;
      for (int i = 0; i < LEVELS; i++) {
        joined[i] = new Rows();
        links[i] = new Rows();
        groups[i] = new Rows();
        picked[i] = new Rows();
        out[i] = new Rows();
      }
    }

    void aim(Tree statement, Image seen) {
      tree = statement;
      view = seen;
    }

    Rows outAt(int level) {
      return level >= 0 && level < LEVELS ? out[level] : nothing;
    }

    /** NULL lies beyond the bounds itself, and stays. */
    private static int bound(int value) {
      return value < -BOUND || value > BOUND ? NULL : value;
    }

    private static int combine(int sign, int a, int b) {
      if (a == NULL || b == NULL) {
        return NULL;
      }
      switch (sign) {
        case PLUS: return a + b;
        case MINUS: return a - b;
        case STAR: return a * b;
        default: return b == 0 ? NULL : a / b;
      }
    }

    private static int compare(int sign, int a, int b) {
      if (a == NULL || b == NULL) {
        return UNKNOWN;
      }
      boolean isSo;
      switch (sign) {
        case EQUAL: isSo = a == b; break;
        case UNEQUAL: isSo = a != b; break;
        case LESS: isSo = a < b; break;
        case LESS_EQUAL: isSo = a <= b; break;
        case MORE: isSo = a > b; break;
        default: isSo = a >= b; break;
      }
      return isSo ? TRUE : FALSE;
    }

    private int current(int level, int source, int column) {
      int spot = (level * SOURCES + source) * COLUMNS + column;
      return spot >= 0 && spot < now.length ? now[spot] : NULL;
    }

    /** Puts a row in the place of a source; of a key that there is not, with NULL in all columns. */
    void place(int level, int source, int[] from, int start) {
      int spot = (level * SOURCES + source) * COLUMNS;
      for (int c = 0; c < COLUMNS && spot >= 0 && spot + c < now.length; c++) {
        boolean isThere = start >= 0 && start + c < from.length;
        now[spot + c] = isThere ? from[start + c] : NULL;
      }
    }

    private static int spotOf(int table, int key) {
      boolean isThere = table >= 0 && table < TABLES && key >= 0 && key < KEYS;
      return isThere ? (table * KEYS + key) * COLUMNS : NONE;
    }

    void placeKey(int table, int key) {
      place(0, 0, view.cells, spotOf(table, key));
    }

    private void loadJoined(int level, int row) {
      int width = SOURCES * COLUMNS;
      boolean isThere = row >= 0 && row < joined[level].count;
      for (int i = 0; i < width; i++) {
        now[level * width + i] = isThere ? joined[level].cells[row * width + i] : NULL;
      }
    }

    private int reckon(int node, int level, int depth) {
      if (depth > DEEPEST) {
        return NULL;
      }
      int arg = tree.get(node, N_ARG);
      switch (tree.get(node, N_KIND)) {
        case K_NUMBER: return arg;
        case K_NEGATIVE: {
          int value = reckon(tree.get(node, N_FIRST), level, depth + 1);
          return value == NULL ? NULL : -value;
        }
        case K_SUM:
        case K_PRODUCT: return reckonChain(node, level, depth);
        case K_REF: return current(level, arg, tree.get(node, N_MORE));
        case K_OUTER: return current(level - 1, arg, tree.get(node, N_MORE));
        case K_AGGREGATE: return aggregate(node, level, depth);
        case K_SUBQUERY: return find(tree.get(node, N_MORE), level + 1, depth + 1).at(0, 0);
        default: return NULL;
      }
    }

    private int reckonChain(int node, int level, int depth) {
      int part = tree.get(node, N_FIRST);
      int value = reckon(part, level, depth + 1);
      for (int i = 0; i < NODES_MOST; i++) {
        part = tree.get(part, N_NEXT);
        if (part == NONE) {
          break;
        }
        value = bound(combine(tree.get(part, N_MARK), value, reckon(part, level, depth + 1)));
      }
      return value;
    }

    private int aggregate(int node, int level, int depth) {
      int which = tree.get(node, N_ARG);
      int inner = tree.get(node, N_FIRST);
      int many = 0;
      int sum = 0;
      int least = NULL;
      int most = NULL;
      int row = heads[level];
      for (int i = 0; i < LONGEST && row >= 0; i++) {
        loadJoined(level, row);
        int value = inner == NONE ? 0 : reckon(inner, level, depth + 1);
        if (value != NULL) {
          least = many == 0 || value < least ? value : least;
          most = many == 0 || value > most ? value : most;
          many++;
          sum += value;
        }
        row = links[level].at(row, 0);
      }
      loadJoined(level, heads[level]);
      switch (which) {
        case COUNT: return many;
        case SUM: return many == 0 ? NULL : bound(sum);
        case MIN: return least;
        default: return most;
      }
    }

    private int test(int node, int level, int depth) {
      if (depth > DEEPEST) {
        return UNKNOWN;
      }
      int first = tree.get(node, N_FIRST);
      boolean isNot = tree.get(node, N_ARG) == NOT;
      switch (tree.get(node, N_KIND)) {
        case K_OR:
        case K_AND: return testParts(node, level, depth);
        case K_NOT: return TRUE - test(first, level, depth + 1);
        case K_NEST: return test(first, level, depth + 1);
        case K_COMPARE: {
          int a = reckon(first, level, depth + 1);
          int b = reckon(tree.get(first, N_NEXT), level, depth + 1);
          return compare(tree.get(node, N_ARG), a, b);
        }
        case K_IS_NULL: return (reckon(first, level, depth + 1) == NULL) != isNot ? TRUE : FALSE;
        case K_EXISTS: return find(tree.get(node, N_MORE), level + 1, depth + 1).count > 0 ? TRUE : FALSE;
        default: {
          int isIn = testIn(node, level, depth);
          return isNot ? TRUE - isIn : isIn;
        }
      }
    }

    /** FALSE, UNKNOWN and TRUE rise, so "or" is the greatest of its parts, "and" the least. */
    private int testParts(int node, int level, int depth) {
      boolean isOr = tree.get(node, N_KIND) == K_OR;
      int end = isOr ? TRUE : FALSE;
      int so = TRUE - end;
      int part = tree.get(node, N_FIRST);
      for (int i = 0; i < NODES_MOST && part != NONE && so != end; i++) {
        int one = test(part, level, depth + 1);
        so = isOr ? Math.max(so, one) : Math.min(so, one);
        part = tree.get(part, N_NEXT);
      }
      return so;
    }

    private int testIn(int node, int level, int depth) {
      int left = tree.get(node, N_FIRST);
      int value = reckon(left, level, depth + 1);
      int so = FALSE;
      if (tree.get(node, N_KIND) == K_IN_QUERY) {
        Rows rows = find(tree.get(node, N_MORE), level + 1, depth + 1);
        for (int r = 0; r < rows.count; r++) {
          so = Math.max(so, compare(EQUAL, value, rows.at(r, 0)));
        }
        return so;
      }
      int part = tree.get(left, N_NEXT);
      for (int i = 0; i < NODES_MOST && part != NONE; i++) {
        so = Math.max(so, compare(EQUAL, value, reckon(part, level, depth + 1)));
        part = tree.get(part, N_NEXT);
      }
      return so;
    }

    /** The rows of a query; they stand till another one at its level is answered. */
    private Rows find(int query, int level, int depth) {
      Query q = tree.queryAt(query);
      if (q == null || level < 0 || level >= LEVELS || depth > DEEPEST) {
        return nothing;
      }
      joined[level].reset(SOURCES * COLUMNS);
      links[level].reset(1);
      picked[level].reset(1 + q.orders);
      loadJoined(level, NONE);
      extend(q, level, 0, depth + 1);
      if (q.isGrouped) {
        group(q, level, depth);
      } else {
        for (int r = 0; r < joined[level].count; r++) {
          loadJoined(level, r);
          pick(q, level, r, depth);
        }
      }
      if (q.orders > 0) {
        sort(picked[level]);
      }
      tell(q, level, depth);
      return out[level];
    }

    /** Joins what is placed already with the source of that number, and with those behind it. */
    private void extend(Query q, int level, int source, int depth) {
      if (depth > DEEPEST) {
        return;
      }
      if (source >= q.sources) {
        if (q.where == NONE || test(q.where, level, depth) == TRUE) {
          int width = SOURCES * COLUMNS;
          int row = joined[level].add();
          for (int i = 0; i < width; i++) {
            joined[level].set(row, i, now[level * width + i]);
          }
        }
        return;
      }
      int table = q.sourceAt(source, S_TABLE);
      int on = q.sourceAt(source, S_ON);
      boolean isMet = false;
      for (int k = 0; k < KEYS; k++) {
        if (view.holds(table, k)) {
          place(level, source, view.cells, spotOf(table, k));
          if (on == NONE || test(on, level, depth) == TRUE) {
            isMet = true;
            extend(q, level, source + 1, depth + 1);
          }
        }
      }
      place(level, source, view.cells, NONE);
      if (!isMet && q.sourceAt(source, S_LEFT) == 1) {
        extend(q, level, source + 1, depth + 1);
      }
    }

    /** A group's first and last row stand ahead of the values of its refs. */
    private void group(Query q, int level, int depth) {
      Rows all = groups[level];
      all.reset(2 + q.groups);
      for (int r = 0; r < joined[level].count; r++) {
        loadJoined(level, r);
        links[level].set(links[level].add(), 0, NONE);
        int own = all.add();
        all.set(own, 0, r);
        all.set(own, 1, r);
        int ref = q.group;
        for (int i = 0; i < q.groups; i++) {
          all.set(own, 2 + i, reckon(ref, level, depth + 1));
          ref = tree.get(ref, N_NEXT);
        }
        int like = findLike(all, own);
        if (like != own) {
          links[level].set(all.at(like, 1), 0, r);
          all.set(like, 1, r);
          all.count = own;
        }
      }
      if (q.groups == 0 && all.count == 0) {
        all.set(all.add(), 0, NONE);
      }
      for (int g = 0; g < all.count; g++) {
        heads[level] = all.at(g, 0);
        loadJoined(level, heads[level]);
        if (q.having == NONE || test(q.having, level, depth + 1) == TRUE) {
          pick(q, level, heads[level], depth);
        }
      }
    }

    private static int findLike(Rows all, int own) {
      int width = all.width;
      for (int g = 0; g < own; g++) {
        boolean isLike = true;
        for (int i = 2; i < width && isLike; i++) {
          isLike = all.cells[g * width + i] == all.cells[own * width + i];
        }
        if (isLike) {
          return g;
        }
      }
      return own;
    }

    /** Picks the row, or the group, that is placed now; with what it is ordered by. */
    private void pick(Query q, int level, int row, int depth) {
      int own = picked[level].add();
      picked[level].set(own, 0, row);
      int item = q.order;
      for (int i = 0; i < q.orders; i++) {
        int value = reckon(item, level, depth + 1);
        boolean isDown = tree.get(item, N_MARK) == DESC;
        picked[level].set(own, 1 + i, isDown ? -value : value);
        item = tree.get(item, N_NEXT);
      }
    }

    /** Merges ever longer runs, so that like ones stay as they were; then lays the rows as their places tell. */
    private void sort(Rows rows) {
      int width = rows.width;
      int count = rows.count;
      if (places.length < count) {
        places = new int[count * 2];
        merged = new int[count * 2];
      }
      for (int i = 0; i < count; i++) {
        places[i] = i;
      }
      for (int run = 1; run < count; run *= 2) {
        for (int from = 0; from < count; from += 2 * run) {
          int middle = Math.min(from + run, count);
          int end = Math.min(from + 2 * run, count);
          int left = from;
          int right = middle;
          for (int to = from; to < end; to++) {
            boolean isLeft = right >= end;
            if (!isLeft && left < middle) {
              int order = 0;
              for (int c = 1; c < width && order == 0; c++) {
                order = rows.cells[places[left] * width + c] - rows.cells[places[right] * width + c];
              }
              isLeft = order <= 0;
            }
            merged[to] = isLeft ? places[left] : places[right];
            left += isLeft ? 1 : 0;
            right += isLeft ? 0 : 1;
          }
        }
        System.arraycopy(merged, 0, places, 0, count);
      }
      for (int i = 0; i < count; i++) {
        merged[i] = rows.cells[places[i] * width];
      }
      for (int i = 0; i < count; i++) {
        rows.cells[i * width] = merged[i];
      }
    }

    private void tell(Query q, int level, int depth) {
      Rows rows = out[level];
      int width = q.whats;
      for (int s = 0; s < q.sources && q.isStar; s++) {
        width += columnsOf(q.sourceAt(s, S_TABLE));
      }
      rows.reset(width);
      for (int i = 0; i < picked[level].count && (q.limit == NONE || i < q.limit); i++) {
        heads[level] = picked[level].at(i, 0);
        loadJoined(level, heads[level]);
        int own = rows.add();
        int column = 0;
        for (int s = 0; s < q.sources && q.isStar; s++) {
          int columns = columnsOf(q.sourceAt(s, S_TABLE));
          for (int c = 0; c < columns; c++) {
            rows.set(own, column, current(level, s, c));
            column++;
          }
        }
        int item = q.what;
        for (; column < q.whats; column++) {
          rows.set(own, column, reckon(item, level, depth + 1));
          item = tree.get(item, N_NEXT);
        }
      }
    }

    private int columnsOf(int table) {
      return table >= 0 && table < tables.length ? tables[table].columns : 0;
    }
  }

  /** What a statement would do: the locks that it needs, the rows that it writes, its error. */
  private static final class Planner {
    private final Table[] tables;
    private final Engine engine;
    private final Image view = new Image();
    private Tree tree;
    private Session session;
    private Image committed;
    private final int[] readNeeds = new int[TABLES];
    private final int[] refNeeds = new int[TABLES];
    private final Rows fresh = new Rows();
    private final int[] row = new int[COLUMNS];
    private int oldKeys;
    private int newKeys;
    private int writeKeys;
    private int count;

    Planner(Table[] all, Engine its, Tree first, Session who, Image now) {
      tables = all;
      engine = its;
      tree = first;
      session = who;
      committed = now;
    }

    /** Aims at a statement of a session, and tells which keys the first step locks for reading. */
    void look(Tree statement, Session who, Image now) {
      tree = statement;
      see(who, now);
      engine.aim(statement, view);
      Arrays.fill(readNeeds, 0);
      if (who.number == 0 || who.level != SERIAL) {
        return;
      }
      for (int i = 0; i < tree.queryCount; i++) {
        Query q = tree.queries[i];
        for (int s = 0; s < q.sources; s++) {
          int table = q.sourceAt(s, S_TABLE);
          int keys = s == 0 && q.use == AS_STATEMENT ? keysOf(q.where) : ALL_KEYS;
          if (isTable(table)) {
            readNeeds[table] |= keys;
          }
        }
      }
      boolean isChange = tree.verb == UPDATE || tree.verb == DELETE;
      if (isChange && isTable(tree.table)) {
        readNeeds[tree.table] |= keysOf(tree.cond);
        needReferring();
      }
    }

    void see(Session who, Image now) {
      session = who;
      committed = now;
      view.copyFrom(who.number != 0 && who.level == SNAPSHOT ? who.start : now);
      view.lay(who.changes);
    }

    private void needReferring() {
      boolean isMoving = tree.verb == DELETE;
      int set = tree.list;
      for (int i = 0; i < NODES_MOST && set != NONE; i++) {
        isMoving |= tree.get(set, N_ARG) == 0;
        set = tree.get(set, N_NEXT);
      }
      for (int t = 0; t < TABLES && isMoving; t++) {
        for (int c = 0; c < tables[t].columns && c < COLUMNS; c++) {
          if (tables[t].refersTo[c] == tree.table) {
            readNeeds[t] = ALL_KEYS;
          }
        }
      }
    }

    /** The keys that a where leaves, as far as its plain parts c0 = N and their like tell it. */
    private int keysOf(int where) {
      if (tree.get(where, N_KIND) != K_AND) {
        return keysOfPart(where);
      }
      int keys = ALL_KEYS;
      int part = tree.get(where, N_FIRST);
      for (int i = 0; i < NODES_MOST && part != NONE; i++) {
        keys &= keysOfPart(part);
        part = tree.get(part, N_NEXT);
      }
      return keys;
    }

    private int keysOfPart(int part) {
      if (tree.get(part, N_KIND) != K_COMPARE || tree.get(part, N_MORE) != 1) {
        return ALL_KEYS;
      }
      int number = tree.get(tree.get(tree.get(part, N_FIRST), N_NEXT), N_ARG);
      int keys = 0;
      for (int k = 0; k < KEYS; k++) {
        keys |= Engine.compare(tree.get(part, N_ARG), k, number) == TRUE ? 1 << k : 0;
      }
      return keys;
    }

    /** Reckons what is aimed at: the rows, and the keys of the second step. */
    void work() {
      oldKeys = 0;
      newKeys = 0;
      writeKeys = 0;
      count = 0;
      fresh.reset(1);
      Arrays.fill(refNeeds, 0);
      if (tree.verb == SELECT) {
        count = engine.find(0, 0, 0).count;
        return;
      }
      if (!isTable(tree.table)) {
        return;
      }
      Table t = tables[tree.table];
      if (tree.verb == INSERT && tree.list == NONE) {
        fresh.copyFrom(engine.find(0, 0, 0));
        count = fresh.count;
      } else if (tree.verb == INSERT) {
        workValues(t);
      } else {
        fresh.reset(t.columns);
        for (int k = 0; k < KEYS; k++) {
          engine.placeKey(tree.table, k);
          boolean isMeant = view.holds(tree.table, k);
          if (isMeant && (tree.cond == NONE || engine.test(tree.cond, 0, 0) == TRUE)) {
            oldKeys |= 1 << k;
            count++;
            workSets(k, t.columns);
          }
        }
      }
      needKeys(t);
    }

    private void workValues(Table t) {
      fresh.reset(t.columns);
      int own = fresh.add();
      int item = tree.list;
      for (int c = 0; c < t.columns; c++) {
        fresh.set(own, c, engine.reckon(item, 0, 0));
        item = tree.get(item, N_NEXT);
      }
      count = 1;
    }

    /** The new row of an update; none of a delete. */
    private void workSets(int key, int columns) {
      if (tree.verb != UPDATE) {
        return;
      }
      for (int c = 0; c < COLUMNS; c++) {
        row[c] = view.cellAt(tree.table, key, c);
      }
      int set = tree.list;
      for (int i = 0; i < NODES_MOST && set != NONE; i++) {
        int column = tree.get(set, N_ARG);
        if (column >= 0 && column < COLUMNS) {
          row[column] = engine.reckon(tree.get(set, N_FIRST), 0, 0);
        }
        set = tree.get(set, N_NEXT);
      }
      int own = fresh.add();
      for (int c = 0; c < columns && c < COLUMNS; c++) {
        fresh.set(own, c, row[c]);
      }
    }

    private void needKeys(Table t) {
      for (int r = 0; r < fresh.count; r++) {
        newKeys |= keyBit(fresh.at(r, 0));
        for (int c = 0; c < t.columns && c < COLUMNS; c++) {
          if (isTable(t.refersTo[c])) {
            refNeeds[t.refersTo[c]] |= keyBit(fresh.at(r, c));
          }
        }
      }
      writeKeys = oldKeys | newKeys;
    }

    private static int keyBit(int key) {
      return key >= 0 && key < KEYS ? 1 << key : 0;
    }

    /** The error 5 to 8 that what was reckoned has, 0 without. */
    int rowError() {
      if (!isTable(tree.table) || tree.verb == SELECT) {
        return 0;
      }
      engine.aim(tables[tree.table].creation, view);
      int error = 0;
      for (int r = 0; r < fresh.count && error == 0; r++) {
        error = errorOfRow(tables[tree.table], r);
      }
      engine.aim(tree, view);
      int taken = view.has[tree.table] & ~oldKeys;
      for (int r = 0; r < fresh.count && error == 0; r++) {
        int bit = keyBit(fresh.at(r, 0));
        error = (taken & bit) != 0 ? DOUBLE : 0;
        taken |= bit;
      }
      return error;
    }

    private int errorOfRow(Table t, int r) {
      if (keyBit(fresh.at(r, 0)) == 0) {
        return KEYED;
      }
      for (int c = 0; c < t.columns && c < COLUMNS; c++) {
        if (t.isNotNull[c] && fresh.at(r, c) == NULL) {
          return NULLED;
        }
      }
      engine.place(0, 0, fresh.cells, r * fresh.width);
      boolean isFalse = t.creation.cond != NONE && engine.test(t.creation.cond, 0, 0) == FALSE;
      return isFalse ? CHECKED : 0;
    }

    /** Whether a reference would be without its row, by what is committed and what the transaction changed. */
    boolean isLost() {
      if (!isTable(tree.table) || tree.verb == SELECT) {
        return false;
      }
      Table own = tables[tree.table];
      for (int r = 0; r < fresh.count; r++) {
        for (int c = 0; c < own.columns && c < COLUMNS; c++) {
          int value = fresh.at(r, c);
          if (isTable(own.refersTo[c]) && value != NULL && !holds(own.refersTo[c], value)) {
            return true;
          }
        }
      }
      int gone = oldKeys & ~newKeys;
      for (int t = 0; t < TABLES && gone != 0; t++) {
        for (int c = 0; c < tables[t].columns && c < COLUMNS; c++) {
          if (tables[t].refersTo[c] == tree.table && refersTo(t, c, gone)) {
            return true;
          }
        }
      }
      return false;
    }

    private boolean holds(int table, int key) {
      boolean isOwn = (session.changes.touched[table] & keyBit(key)) != 0;
      return isOwn ? session.changes.holds(table, key) : committed.holds(table, key);
    }

    private boolean refersTo(int table, int column, int keys) {
      for (int k = 0; k < KEYS; k++) {
        boolean isOwn = (session.changes.touched[table] & 1 << k) != 0;
        Image image = isOwn ? session.changes : committed;
        if (image.holds(table, k) && (keyBit(image.cellAt(table, k, column)) & keys) != 0) {
          return true;
        }
      }
      return false;
    }

    /** Gives the session all locks of both steps. */
    void hold() {
      for (int t = 0; t < TABLES; t++) {
        session.read[t] |= readNeeds[t] | refNeeds[t];
        session.write[t] |= t == tree.table ? writeKeys : 0;
      }
    }

    /** Does what was reckoned, and tells the result; how many records it makes. */
    int carryOut(int error) {
      if (error != 0) {
        session.tellError(error, NONE);
        return 0;
      }
      if (tree.verb == SELECT) {
        Rows rows = engine.outAt(0);
        session.tell(ROWS, rows.count, rows.width);
        session.told.copyFrom(rows);
        return 0;
      }
      session.tell(CHANGED, count, 0);
      session.changes.touch(tree.table, writeKeys);
      session.changes.remove(tree.table, oldKeys);
      for (int r = 0; r < fresh.count; r++) {
        session.changes.put(tree.table, fresh.at(r, 0), fresh.cells, r * fresh.width, fresh.width);
      }
      int many = Integer.bitCount(writeKeys);
      session.records += many;
      return many;
    }

    /** Whether what is committed holds what always holds. */
    boolean holdsAlways(Image all) {
      for (int t = 0; t < TABLES; t++) {
        engine.aim(tables[t].creation, all);
        for (int k = 0; k < KEYS; k++) {
          boolean isRow = tables[t].columns > 0 && all.holds(t, k);
          if (isRow && !isRowRight(all, t, k)) {
            return false;
          }
        }
      }
      return true;
    }

    private boolean isRowRight(Image all, int table, int key) {
      Table t = tables[table];
      for (int c = 0; c < t.columns && c < COLUMNS; c++) {
        int value = all.cellAt(table, key, c);
        boolean isLost = isTable(t.refersTo[c]) && value != NULL && !all.holds(t.refersTo[c], value);
        if (isLost || t.isNotNull[c] && value == NULL) {
          return false;
        }
      }
      engine.placeKey(table, key);
      boolean isFalse = t.creation.cond != NONE && engine.test(t.creation.cond, 0, 0) == FALSE;
      return all.cellAt(table, key, 0) == key && !isFalse;
    }
  }

  /** Runs the last serial transactions that committed again, each alone. */
  private static final class Witness {
    private final Table[] tables;
    private final Parser parser;
    private final Planner planner;
    private final Rows[] trails = new Rows[REPLAYS];
    private final Image[] ahead = new Image[REPLAYS];
    private final Image[] done = new Image[REPLAYS];
    private final Session ghost = new Session();
    private int kept;
    private int next;

    Witness(Table[] all, Parser reads, Planner plans) {
      tables = all;
      parser = reads;
      planner = plans;
      for (int i = 0; i < REPLAYS; i++) {
        trails[i] = new Rows();
        ahead[i] = new Image();
        done[i] = new Image();
      }
    }

    void forget() {
      kept = 0;
      next = 0;
    }

    /** Keeps a transaction that commits; the room of the one that it follows goes to the session. */
    void keep(Session s, Image committed) {
      if (next < 0 || next >= REPLAYS) {
        return;
      }
      Rows free = trails[next];
      trails[next] = s.trail;
      s.trail = free;
      free.reset(1);
      ahead[next].copyFrom(committed);
      done[next].copyFrom(s.changes);
      next = (next + 1) % REPLAYS;
      kept = kept < REPLAYS ? kept + 1 : REPLAYS;
    }

    /** Whether the transaction of that number among those that are kept does the same, run alone. */
    boolean isSame(int one) {
      if (one < 0 || one >= kept || one >= REPLAYS) {
        return true;
      }
      Rows trail = trails[one];
      Image before = ahead[one];
      ghost.clear();
      ghost.open(1, SERIAL, false, 0, before);
      int at = 0;
      for (int i = 0; i < LONGEST && at < trail.count; i++) {
        int step = trail.at(at, 0);
        int k = trail.at(at + 1, 0);
        at += 2;
        if (step == SET_POINT) {
          ghost.setPoint(k);
        } else if (step == WENT_BACK) {
          ghost.goBack(k);
        } else {
          ghost.tree.size = 0;
          for (int t = 0; t < k && t < TOKENS_MOST; t++) {
            ghost.tree.tokens[t] = trail.at(at + t, 0);
            ghost.tree.size = t + 1;
          }
          at += k;
          parser.parse(ghost.tree);
          ghost.tree.judge(tables);
          planner.look(ghost.tree, ghost, before);
          planner.work();
          int error = planner.rowError();
          planner.carryOut(error == 0 && planner.isLost() ? LOST : error);
          if (!isTold(trail, at)) {
            return false;
          }
          at += R_ALL + 2;
        }
      }
      return ghost.changes.isLike(done[one]);
    }

    private boolean isTold(Rows trail, int at) {
      long h = ghost.told.hash();
      boolean isSame = trail.at(at + R_ALL, 0) == (int) h && trail.at(at + R_ALL + 1, 0) == (int) (h >>> 32);
      for (int i = 0; i < R_ALL && isSame; i++) {
        isSame = trail.at(at + i, 0) == ghost.outcome[i];
      }
      return isSame;
    }
  }
}
