/** A nursery: the parts of her brothers that an only child has to play, one a day, as it calls loudest. */
public final class OthersShare {
  private static final int BEYOND = -1000000001;
  private static final int FULL = -1000000002;
  private static final int KIND = -1000000003;
  private static final int NONE = -1000000004;
  private static final int STATE = -1000000005;
  private static final int MISSING = -1000000006;
  private static final int SIZE = -1000000007;
  private static final int FINDINGS = 7;

  private static final int SHEETS = 4;
  private static final int LAST_DAY = 9999;
  private static final int MOST_WEARY = 99;

  /** A number of days that is above every number of days looked ahead. */
  private static final int NEVER = 100000;

  private final Nursery home;
  private final Nursery trial;
  private final Nursery kept;
  private boolean keeps;
  private final Tape tape;
  private final Reader reader;
  private final Sheet[] sheets;
  private final int[] findings;

  public OthersShare() {
    home = new Nursery();
    trial = new Nursery();
    kept = new Nursery();
    keeps = false;
    tape = new Tape();
    reader = new Reader(tape);
    sheets = new Sheet[SHEETS];
    for (int s = 0; s < SHEETS; s++) {
      sheets[s] = new Sheet();
    }
    findings = new int[FINDINGS];
  }

  // ---- the nursery

  public int weary(int v) {
    if (!inside(v, 0, MOST_WEARY)) {
      return finding(BEYOND);
    }
    int was = home.weary;
    home.weary = v;
    return was;
  }

  public int free(int place, int v) {
    if (!inside(place, 0, Nursery.WEEK - 1) || !inside(v, 0, 1)) {
      return finding(BEYOND);
    }
    int was = home.free[place];
    home.free[place] = v;
    return was;
  }

  public int now(int what) {
    switch (what) {
      case 0:
        return home.day;
      case 1:
        return bit(home.isHoliday());
      case 2:
        return home.weary;
      case 3:
        return home.late;
      case 4:
        return home.loudest();
      case 5:
        return home.doneSet();
      case 6:
        return home.behindhandSet();
      default:
        return finding(BEYOND);
    }
  }

  // ---- parts

  public int part(int kind, int due) {
    if (!isKind(kind) || !inside(due, 0, LAST_DAY)) {
      return finding(BEYOND);
    }
    if (home.isFull()) {
      return finding(FULL);
    }
    return home.add(kind, Nursery.FIRST_LENGTH, due, 0);
  }

  public int of(int part, int what) {
    if (!hasPart(part)) {
      return finding(BEYOND);
    }
    switch (what) {
      case 0:
        return home.kinds[part];
      case 1:
        return home.lengths[part];
      case 2:
        return home.points[part];
      case 3:
        return home.dues[part];
      case 4:
        return home.off[part];
      case 5:
        return home.needs(part);
      case 6:
        return home.gives(part);
      case 7:
        return home.calls(part, home.undone());
      case 8:
        return 100 + home.tires(part);
      case 9:
        return bit(home.isDone(part));
      default:
        return finding(BEYOND);
    }
  }

  public int set(int part, int what, int v) {
    if (!hasPart(part)) {
      return finding(BEYOND);
    }
    switch (what) {
      case 1:
        return exchange(home.lengths, part, v, 1, Nursery.MOST_LENGTH);
      case 2:
        return exchange(home.points, part, v, 0, Nursery.MOST_POINTS);
      case 3:
        return exchange(home.dues, part, v, 0, LAST_DAY);
      case 4:
        return exchange(home.off, part, v, 0, Nursery.MOST_OFF);
      default:
        return finding(BEYOND);
    }
  }

  public int turn(int part, int kind) {
    if (!hasPart(part)) {
      return finding(BEYOND);
    }
    return exchange(home.kinds, part, kind, 0, Kinds.COUNT - 1);
  }

  public int as(int part, int kind) {
    if (!hasPart(part) || !isKind(kind)) {
      return finding(BEYOND);
    }
    if (!Kinds.isUnder(home.kinds[part], kind)) {
      return finding(KIND);
    }
    return home.points[part];
  }

  public int left(int part) {
    if (!hasPart(part)) {
      return finding(BEYOND);
    }
    return Math.max(0, home.needs(part) - home.points[part]);
  }

  // ---- days

  public int days(int n) {
    if (!inside(n, 1, 100)) {
      return finding(BEYOND);
    }
    if (home.day + n > LAST_DAY) {
      return finding(STATE);
    }
    home.passDays(n);
    return home.doneSet();
  }

  public int on(int part, int n, int what) {
    if (!hasPart(part) || !inside(n, 0, 400) || !inside(what, 0, 1)) {
      return finding(BEYOND);
    }
    Nursery ahead = rehearsal();
    ahead.passDays(n);
    return what == 0 ? ahead.points[part] : bit(ahead.isDone(part));
  }

  public int then(int n, int what) {
    if (!inside(n, 0, 400) || !inside(what, 0, 2)) {
      return finding(BEYOND);
    }
    Nursery ahead = rehearsal();
    ahead.passDays(n);
    if (what == 0) {
      return ahead.weary;
    }
    return what == 1 ? ahead.late : ahead.size - ahead.undone();
  }

  public int done(int part) {
    if (!hasPart(part)) {
      return finding(BEYOND);
    }
    return daysOrNone(rehearsal().daysTillDone(part, 400));
  }

  public int all() {
    return daysOrNone(rehearsal().daysTillAllDone(400));
  }

  public int played(int part) {
    if (!hasPart(part)) {
      return finding(BEYOND);
    }
    return daysOrNone(rehearsal().daysTillPlayed(part, 400));
  }

  // ---- what is best

  public int later(int n) {
    if (!inside(n, 1, 60)) {
      return finding(BEYOND);
    }
    Nursery asItIs = rehearsal();
    asItIs.passDays(200);
    int least = asItIs.late;
    int best = -1;
    for (int part = 0; part < home.size; part++) {
      Nursery ahead = rehearsal();
      ahead.off[part] = n;
      ahead.passDays(200);
      if (ahead.late < least) {
        least = ahead.late;
        best = part;
      }
    }
    return best < 0 ? finding(NONE) : best;
  }

  public int kind(int part) {
    if (!hasPart(part)) {
      return finding(BEYOND);
    }
    int soonest = NEVER;
    int best = -1;
    for (int kind = 0; kind < Kinds.COUNT; kind++) {
      Nursery ahead = rehearsal();
      ahead.kinds[part] = kind;
      int days = ahead.daysTillDone(part, 400);
      if (days < soonest) {
        soonest = days;
        best = kind;
      }
    }
    return best < 0 ? finding(NONE) : best;
  }

  public int bears(int n) {
    if (!inside(n, 1, 200)) {
      return finding(BEYOND);
    }
    // Being more weary can help (an admiral may fall silent), so each is tried.
    for (int weary = MOST_WEARY; weary >= 0; weary--) {
      Nursery ahead = rehearsal();
      ahead.weary = weary;
      if (ahead.daysTillAllDone(n) != NEVER) {
        return weary;
      }
    }
    return finding(NONE);
  }

  public int holiday() {
    int soonest = rehearsal().daysTillAllDone(400);
    int best = -1;
    for (int place = 0; place < Nursery.WEEK; place++) {
      if (home.free[place] == 0) {
        Nursery ahead = rehearsal();
        ahead.free[place] = 1;
        int days = ahead.daysTillAllDone(400);
        if (days < soonest) {
          soonest = days;
          best = place;
        }
      }
    }
    return best < 0 ? finding(NONE) : best;
  }

  public int last() {
    int latest = -1;
    int which = -1;
    for (int part = 0; part < home.size; part++) {
      int days = rehearsal().daysTillDone(part, 400);
      if (days > latest) {
        latest = days;
        which = part;
      }
    }
    return which < 0 ? finding(NONE) : which;
  }

  public int longest(int part) {
    if (!hasPart(part)) {
      return finding(BEYOND);
    }
    int days = home.dues[part] - home.day + 1;
    if (!inside(days, 1, 400)) {
      return finding(STATE);
    }
    // A longer sailor calls louder and may be done where a shorter is not, so each is tried.
    for (int length = Nursery.MOST_LENGTH; length >= 1; length--) {
      Nursery ahead = rehearsal();
      ahead.lengths[part] = length;
      if (ahead.daysTillDone(part, days) != NEVER) {
        return length;
      }
    }
    return finding(NONE);
  }

  public int due(int part) {
    if (!hasPart(part)) {
      return finding(BEYOND);
    }
    int soonest = NEVER;
    int best = -1;
    int end = Math.min(home.day + 60, LAST_DAY);
    for (int due = end; due >= home.day; due--) {
      Nursery ahead = rehearsal();
      ahead.dues[part] = due;
      int days = ahead.daysTillDone(part, 200);
      if (days < soonest) {
        soonest = days;
        best = due;
      }
    }
    return best < 0 ? finding(NONE) : best;
  }

  // ---- the text

  public int feed(int bytes, int n) {
    if (!inside(n, 1, 4)) {
      return finding(BEYOND);
    }
    if (tape.size + n > Tape.MOST) {
      return finding(FULL);
    }
    for (int shift = 8 * (n - 1); shift >= 0; shift -= 8) {
      tape.append((byte) (bytes >> shift));
    }
    return tape.size;
  }

  public int wipe() {
    int was = tape.size;
    tape.size = 0;
    return was;
  }

  public int nursery() {
    // Told to the rehearsal first: a fault behind good items must leave nothing of them.
    Nursery told = rehearsal();
    int items = reader.tell(told);
    tape.size = 0;
    if (items >= 0) {
      home.become(told);
    }
    return items;
  }

  // ---- sheets

  public int sheet(int s, int bits, int n) {
    Sheet sheet = sheetAt(s);
    if (sheet == null || (bits != 0 && bits != 8 && bits != 16 && bits != 64)) {
      return finding(BEYOND);
    }
    if (n < 0) {
      return finding(SIZE);
    }
    if (n > Sheet.MOST) {
      return finding(BEYOND);
    }
    sheet.begin(bits, bits == 0 ? 0 : n);
    return sheet.size;
  }

  public long write(int s, int i, long v) {
    Sheet sheet = sheetAt(s);
    if (sheet == null) {
      return finding(BEYOND);
    }
    if (sheet.isMissing()) {
      return finding(MISSING);
    }
    if (!inside(i, 0, sheet.size - 1)) {
      return finding(BEYOND);
    }
    long was = sheet.numbers[i];
    sheet.put(i, v);
    return was;
  }

  public int copy(int s, int from, int t, int to, int n) {
    Sheet source = sheetAt(s);
    Sheet target = sheetAt(t);
    if (source == null || target == null) {
      return finding(BEYOND);
    }
    if (source.isMissing() || target.isMissing()) {
      return finding(MISSING);
    }
    if (source.bits != target.bits) {
      return finding(KIND);
    }
    if (!source.hasSpan(from, n) || !target.hasSpan(to, n)) {
      return finding(BEYOND);
    }
    System.arraycopy(source.numbers, from, target.numbers, to, n);
    return n;
  }

  public int lays(int s) {
    Sheet sheet = sheetAt(s);
    if (sheet == null) {
      return finding(BEYOND);
    }
    if (sheet.isMissing()) {
      return finding(MISSING);
    }
    int came = 0;
    int end = Math.min(sheet.size, home.size);
    for (int part = 0; part < end; part++) {
      long due = sheet.numbers[part];
      if (due >= 0 && due <= LAST_DAY) {
        home.dues[part] = (int) due;
        came++;
      }
    }
    return came;
  }

  public int book(int s) {
    Sheet sheet = sheetAt(s);
    if (sheet == null) {
      return finding(BEYOND);
    }
    if (sheet.isMissing()) {
      return finding(MISSING);
    }
    Nursery ahead = rehearsal();
    for (int i = 0; i < sheet.size; i++) {
      sheet.put(i, ahead.passDay());
    }
    return sheet.size;
  }

  public int read(int s, int part) {
    Sheet sheet = sheetAt(s);
    if (sheet == null) {
      return finding(BEYOND);
    }
    if (sheet.isMissing()) {
      return finding(MISSING);
    }
    if (!hasPart(part)) {
      return finding(BEYOND);
    }
    int pairs = 0;
    for (int kind = 0; kind < Kinds.COUNT; kind++) {
      for (int weary = 0; weary <= MOST_WEARY; weary++) {
        Nursery ahead = rehearsal();
        ahead.kinds[part] = kind;
        ahead.weary = weary;
        if (goesAs(ahead, part, sheet)) {
          pairs++;
        }
      }
    }
    return pairs;
  }

  // ---- images

  public int image() {
    kept.become(home);
    keeps = true;
    return 1;
  }

  public int undo() {
    if (!keeps) {
      return finding(NONE);
    }
    home.become(kept);
    return home.size;
  }

  public int tear() {
    int was = bit(keeps);
    keeps = false;
    return was;
  }

  public int count(int what) {
    switch (what) {
      case 0:
        return home.size;
      case 1:
        return tape.size;
      case 2:
        return home.holidays();
      case 3:
        return home.allPoints();
      default:
        return finding(BEYOND);
    }
  }

  public int status(int which) {
    if (!inside(which, -1, FINDINGS - 1)) {
      return finding(BEYOND);
    }
    if (which >= 0) {
      return findings[which];
    }
    int sum = 0;
    for (int i = 0; i < FINDINGS; i++) {
      sum += findings[i];
    }
    return sum;
  }

  private int finding(int code) {
    int place = BEYOND - code;
    if (place >= 0 && place < FINDINGS) {
      findings[place]++;
    }
    return code;
  }

  private int daysOrNone(int days) {
    return days == NEVER ? finding(NONE) : days;
  }

  /** All as it is, to be changed and gone on with while the home stays. */
  private Nursery rehearsal() {
    trial.become(home);
    return trial;
  }

  private boolean hasPart(int part) {
    return inside(part, 0, home.size - 1);
  }

  private Sheet sheetAt(int s) {
    return inside(s, 0, SHEETS - 1) ? sheets[s] : null;
  }

  private int exchange(int[] row, int part, int v, int low, int high) {
    if (!inside(v, low, high) || !inside(part, 0, row.length - 1)) {
      return finding(BEYOND);
    }
    int was = row[part];
    row[part] = v;
    return was;
  }

  private static boolean goesAs(Nursery ahead, int part, Sheet sheet) {
    for (int i = 0; i < sheet.size; i++) {
      if (ahead.points[part] != sheet.numbers[i]) {
        return false;
      }
      ahead.passDay();
    }
    return true;
  }

  private static boolean isKind(int kind) {
    return inside(kind, 0, Kinds.COUNT - 1);
  }

  private static boolean inside(int v, int low, int high) {
    return v >= low && v <= high;
  }

  private static int bit(boolean b) {
    return b ? 1 : 0;
  }

  /** What a part of each kind needs, gives, calls and tires. */
  private static final class Kinds {
    static final int COUNT = 6;
    static final int PART = 0;
    static final int SAILOR = 1;
    static final int PET = 2;
    static final int GHOST = 3;
    static final int ADMIRAL = 4;
    static final int YOUNGEST = 5;

    /** Whether a kind is another one, or under it, however far. */
    static boolean isUnder(int kind, int over) {
      return kind == over || over == PART
          || (kind == ADMIRAL && over == SAILOR) || (kind == YOUNGEST && over == PET);
    }

    static int needs(int kind, int length) {
      int asSailor = 2 * length;
      switch (kind) {
        case SAILOR:
          return asSailor;
        case GHOST:
          return 1;
        case ADMIRAL:
          return asSailor + 5;
        case YOUNGEST:
          return length + length / 2;
        default:
          return length;
      }
    }

    static int gives(int kind, int weary, boolean holiday) {
      int asPart = 4 - weary / 30;
      int asSailor = holiday ? asPart + 3 : asPart;
      int asPet = asPart + 1;
      switch (kind) {
        case SAILOR:
          return Math.max(0, asSailor);
        case PET:
          return Math.max(0, asPet);
        case GHOST:
          return 1;
        case ADMIRAL:
          return Math.max(0, asSailor - 1);
        case YOUNGEST:
          return weary > 80 ? 0 : Math.max(0, asPet);
        default:
          return Math.max(0, asPart);
      }
    }

    /** How loud; overdue is DAY less DUE, and only what comes out in the end is held at 0. */
    static int calls(int kind, int length, int overdue, int weary, boolean othersUndone) {
      int asPart = 50 + overdue;
      int asSailor = asPart + length;
      int asPet = asPart - 5;
      switch (kind) {
        case SAILOR:
          return Math.max(0, asSailor);
        case PET:
          return Math.max(0, asPet);
        case GHOST:
          return 60;
        case ADMIRAL:
          return weary > 50 ? 0 : Math.max(0, asSailor);
        case YOUNGEST:
          return othersUndone ? 1 : Math.max(0, asPet);
        default:
          return Math.max(0, asPart);
      }
    }

    static int tires(int kind) {
      switch (kind) {
        case SAILOR:
        case ADMIRAL:
          return 10;
        case PET:
          return -3;
        case GHOST:
          return 0;
        case YOUNGEST:
          return -1;
        default:
          return 6;
      }
    }
  }

  /** All that section 1 of the document tells, but for the tape. */
  private static final class Nursery {
    static final int MOST_PARTS = 8;
    static final int WEEK = 7;
    static final int FIRST_LENGTH = 10;
    static final int MOST_LENGTH = 99;
    static final int MOST_POINTS = 9999;
    static final int MOST_OFF = 99;
    static final int MOST_LATE = 9999;

    int day;
    int weary;
    int late;
    int size;
    final int[] free = new int[WEEK];
    final int[] kinds = new int[MOST_PARTS];
    final int[] lengths = new int[MOST_PARTS];
    final int[] points = new int[MOST_PARTS];
    final int[] dues = new int[MOST_PARTS];
    final int[] off = new int[MOST_PARTS];

    Nursery() {
      free[5] = 1;
      free[6] = 1;
    }

    void become(Nursery other) {
      day = other.day;
      weary = other.weary;
      late = other.late;
      size = other.size;
      System.arraycopy(other.free, 0, free, 0, WEEK);
      System.arraycopy(other.kinds, 0, kinds, 0, MOST_PARTS);
      System.arraycopy(other.lengths, 0, lengths, 0, MOST_PARTS);
      System.arraycopy(other.points, 0, points, 0, MOST_PARTS);
      System.arraycopy(other.dues, 0, dues, 0, MOST_PARTS);
      System.arraycopy(other.off, 0, off, 0, MOST_PARTS);
    }

    boolean isFull() {
      return size >= MOST_PARTS;
    }

    /** The number of the new part; -1, if there is no room for it. */
    int add(int kind, int length, int due, int putOff) {
      if (isFull()) {
        return -1;
      }
      int part = size;
      kinds[part] = kind;
      lengths[part] = length;
      points[part] = 0;
      dues[part] = due;
      off[part] = putOff;
      size++;
      return part;
    }

    boolean isHoliday() {
      return free[Math.floorMod(day, WEEK)] == 1;
    }

    int holidays() {
      int sum = 0;
      for (int place = 0; place < WEEK; place++) {
        sum += free[place];
      }
      return sum;
    }

    int allPoints() {
      int sum = 0;
      for (int part = 0; part < size; part++) {
        sum += points[part];
      }
      return sum;
    }

    int needs(int part) {
      return Kinds.needs(kinds[part], lengths[part]);
    }

    int gives(int part) {
      return Kinds.gives(kinds[part], weary, isHoliday());
    }

    /** How loud a part calls, where so many parts are not done, itself counted. */
    int calls(int part, int undone) {
      int others = isDone(part) ? undone : undone - 1;
      return Kinds.calls(kinds[part], lengths[part], day - dues[part], weary, others > 0);
    }

    int tires(int part) {
      return Kinds.tires(kinds[part]);
    }

    boolean isDone(int part) {
      return points[part] >= Kinds.needs(kinds[part], lengths[part]);
    }

    int undone() {
      int sum = 0;
      for (int part = 0; part < size; part++) {
        if (!isDone(part)) {
          sum++;
        }
      }
      return sum;
    }

    int doneSet() {
      int set = 0;
      for (int part = 0; part < size; part++) {
        if (isDone(part)) {
          set |= 1 << part;
        }
      }
      return set;
    }

    int behindhandSet() {
      int set = 0;
      for (int part = 0; part < size; part++) {
        if (!isDone(part) && day > dues[part]) {
          set |= 1 << part;
        }
      }
      return set;
    }

    /** The part that is played on this day; -1: none. */
    int loudest() {
      int undone = undone();
      int best = -1;
      int bestCall = 0;
      for (int part = 0; part < size; part++) {
        if (off[part] == 0 && !isDone(part)) {
          int call = calls(part, undone);
          if (call > bestCall) {
            bestCall = call;
            best = part;
          }
        }
      }
      return best;
    }

    void passDays(int n) {
      for (int i = 0; i < n; i++) {
        passDay();
      }
    }

    /** A day goes: the part that was played; -1: none. */
    int passDay() {
      int part = loudest();
      if (part >= 0) {
        play(part);
      } else {
        weary = Math.max(0, weary - 10);
      }
      if (isHoliday()) {
        weary = Math.max(0, weary - 4);
      }
      for (int i = 0; i < size; i++) {
        off[i] = Math.max(0, off[i] - 1);
      }
      day++;
      return part;
    }

    private void play(int part) {
      points[part] = Math.min(MOST_POINTS, points[part] + gives(part));
      weary = Math.max(0, Math.min(MOST_WEARY, weary + tires(part)));
      if (isDone(part) && day > dues[part]) {
        late = Math.min(MOST_LATE, late + 1);
      }
    }

    /** In how many days, most at the most, a part is done first; NEVER: in none of these. */
    int daysTillDone(int part, int most) {
      for (int n = 0; n < most; n++) {
        if (isDone(part)) {
          return n;
        }
        passDay();
      }
      return isDone(part) ? most : NEVER;
    }

    int daysTillAllDone(int most) {
      for (int n = 0; n < most; n++) {
        if (undone() == 0) {
          return n;
        }
        passDay();
      }
      return undone() == 0 ? most : NEVER;
    }

    int daysTillPlayed(int part, int most) {
      for (int n = 1; n <= most; n++) {
        if (passDay() == part) {
          return n;
        }
      }
      return NEVER;
    }
  }

  /** The bytes of a text. */
  private static final class Tape {
    static final int MOST = 120;

    final byte[] bytes = new byte[MOST];
    int size;

    void append(byte b) {
      if (size < MOST) {
        bytes[size] = b;
        size++;
      }
    }

    /** The byte at a place; 0, which begins no token, where there is none. */
    int at(int place) {
      return place >= 0 && place < size ? bytes[place] : 0;
    }
  }

  /** Reads a nursery's text off the tape, a token at a time. */
  private static final class Reader {
    private static final int END = 0;
    private static final int WORD = 1;
    private static final int NUMBER = 2;
    private static final int SEMICOLON = 3;
    private static final int OTHER = 4;

    private static final int MOST_NUMBER = 9999;

    private final Tape tape;
    private int token;
    private int start;
    private int behind;
    private int number;

    Reader(Tape tape) {
      this.tape = tape;
    }

    /** How many items came to the nursery; or -1 less the place of the fault. */
    int tell(Nursery nursery) {
      behind = 0;
      step();
      for (int items = 1; items <= Tape.MOST; items++) {
        if (!tellItem(nursery)) {
          return -1 - start;
        }
        if (token == END) {
          return items;
        }
        if (token != SEMICOLON) {
          return -1 - start;
        }
        step();
      }
      return -1 - start;
    }

    /** False: the token at hand can't stand there. */
    private boolean tellItem(Nursery nursery) {
      int kind = kindAtHand();
      if (kind >= 0) {
        return tellPart(nursery, kind);
      }
      if (isAtHand("free")) {
        return tellDay(nursery, 1);
      }
      if (isAtHand("school")) {
        return tellDay(nursery, 0);
      }
      if (isAtHand("weary")) {
        step();
        int weary = takeNumber(0, MOST_WEARY);
        if (weary < 0) {
          return false;
        }
        nursery.weary = weary;
        return true;
      }
      return false;
    }

    private boolean tellPart(Nursery nursery, int kind) {
      if (nursery.isFull()) {
        return false;
      }
      step();
      int due = takeNumber(0, LAST_DAY);
      if (due < 0) {
        return false;
      }
      int length = Nursery.FIRST_LENGTH;
      if (isAtHand("long")) {
        step();
        length = takeNumber(1, Nursery.MOST_LENGTH);
        if (length < 0) {
          return false;
        }
      }
      int putOff = 0;
      if (isAtHand("later")) {
        step();
        putOff = takeNumber(0, Nursery.MOST_OFF);
        if (putOff < 0) {
          return false;
        }
      }
      nursery.add(kind, length, due, putOff);
      return true;
    }

    private boolean tellDay(Nursery nursery, int holiday) {
      step();
      int place = takeNumber(0, Nursery.WEEK - 1);
      if (place < 0) {
        return false;
      }
      nursery.free[place] = holiday;
      return true;
    }

    /** The number at hand, stepped over; -1, and nothing stepped over: none such may stand there. */
    private int takeNumber(int low, int high) {
      if (token != NUMBER || number < low || number > high) {
        return -1;
      }
      int taken = number;
      step();
      return taken;
    }

    private int kindAtHand() {
      if (isAtHand("part")) {
        return Kinds.PART;
      }
      if (isAtHand("sailor")) {
        return Kinds.SAILOR;
      }
      if (isAtHand("pet")) {
        return Kinds.PET;
      }
      if (isAtHand("ghost")) {
        return Kinds.GHOST;
      }
      if (isAtHand("admiral")) {
        return Kinds.ADMIRAL;
      }
      return isAtHand("youngest") ? Kinds.YOUNGEST : -1;
    }

    private boolean isAtHand(String word) {
      if (token != WORD || behind - start != word.length()) {
        return false;
      }
      for (int i = 0; i < word.length(); i++) {
        if (tape.at(start + i) != word.charAt(i)) {
          return false;
        }
      }
      return true;
    }

    /** To the next token. */
    private void step() {
      start = behind;
      while (start < tape.size && tape.at(start) == ' ') {
        start++;
      }
      behind = start;
      if (start >= tape.size) {
        token = END;
      } else if (isLetter(tape.at(start))) {
        token = WORD;
        while (behind < tape.size && isLetter(tape.at(behind))) {
          behind++;
        }
      } else if (isDigit(tape.at(start))) {
        token = NUMBER;
        number = 0;
        while (behind < tape.size && isDigit(tape.at(behind))) {
          // Held just above the most: a hundred digits must not wrap round to a number that may be.
          number = Math.min(MOST_NUMBER + 1, 10 * number + (tape.at(behind) - '0'));
          behind++;
        }
      } else {
        token = tape.at(start) == ';' ? SEMICOLON : OTHER;
        behind++;
      }
    }

    private static boolean isLetter(int b) {
      return b >= 'a' && b <= 'z';
    }

    private static boolean isDigit(int b) {
      return b >= '0' && b <= '9';
    }
  }

  /** A row of numbers of some bits; of 0 bits: missing. */
  private static final class Sheet {
    static final int MOST = 40;

    final long[] numbers = new long[MOST];
    int bits;
    int size;

    boolean isMissing() {
      return bits == 0;
    }

    void begin(int newBits, int n) {
      bits = newBits;
      size = Math.max(0, Math.min(MOST, n));
      for (int i = 0; i < MOST; i++) {
        numbers[i] = 0;
      }
    }

    void put(int i, long v) {
      if (i >= 0 && i < size) {
        numbers[i] = narrowed(v);
      }
    }

    boolean hasSpan(int from, int n) {
      return from >= 0 && n >= 0 && n <= size && from <= size - n;
    }

    private long narrowed(long v) {
      switch (bits) {
        case 8:
          return (byte) v;
        case 16:
          return (short) v;
        default:
          return v;
      }
    }
  }
}
