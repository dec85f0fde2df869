import java.util.function.Supplier;

/** Each sentence of promises 1 to 37 that names a boundary case, in the document's order. */
public final class OthersShareEdges {
  private static final int LOW = Edge.LOW;
  private static final int HIGH = Edge.HIGH;
  private static final int BEYOND = Edge.BEYOND;

  private interface Asked {
    long of(OthersShare x, int v);
  }

  private static void is(String what, long got, long want) {
    Edge.is(what, got, want);
  }

  private static void refuses(String what, Supplier<OthersShare> made, Edge.Call call, long finding) {
    Edge.refuses(what, made, call, finding);
  }

  private static void asks(String what, Supplier<OthersShare> made, Edge.Call call, long want) {
    Edge.asks(what, made, call, want);
  }

  /** BEYOND for all that is just outside, and for what lies as far outside as can be. */
  private static void outside(String what, int low, int high, Asked asked) {
    for (int v : new int[] {low - 1, high + 1, LOW, HIGH, LOW + low, HIGH - high}) {
      refuses(what + " " + v, Edge::rich, x -> asked.of(x, v), BEYOND);
    }
  }

  /** BEYOND for all numbers that stand for no part: with none, with six and with eight parts. */
  private static void noPart(String what, Asked asked) {
    outside(what + " of part", 0, 5, asked);
    refuses(what + " of part 8", Edge::full, x -> asked.of(x, 8), BEYOND);
    refuses(what + " of part 0 of none", OthersShare::new, x -> asked.of(x, 0), BEYOND);
    OthersShare six = Edge.rich();
    is(what + " of the last of six is no BEYOND", asked.of(six, 5) == BEYOND ? 1 : 0, 0);
    OthersShare eight = Edge.full();
    is(what + " of the last of eight is no BEYOND", asked.of(eight, 7) == BEYOND ? 1 : 0, 0);
  }

  // ---- the nursery

  private static void made() {
    Edge.says("1: No PARTS; THE TAPE is empty, no image is kept.");
    is("PARTS", new OthersShare().count(0), 0);
    is("of(0, 0)", new OthersShare().of(0, 0), BEYOND);
    is("bytes", new OthersShare().count(1), 0);
    is("wipe()", new OthersShare().wipe(), 0);
    is("nursery()", new OthersShare().nursery(), -1);
    is("undo()", new OthersShare().undo(), Edge.NONE);
    is("tear()", new OthersShare().tear(), 0);
    OthersShare used = Edge.full();
    used.image();
    Edge.same("one made behind another", new OthersShare(), new OthersShare());
    is("status(-1)", new OthersShare().status(-1), 0);
    is("the other one's parts", used.count(0), 8);
  }

  private static void weary() {
    Edge.says("2: WEARY becomes v: what it was. BEYOND.");
    OthersShare x = new OthersShare();
    int[] v = {1, 98, 99, 0, 0};
    int[] was = {0, 1, 98, 99, 0};
    for (int i = 0; i < v.length; i++) {
      is("weary(" + v[i] + ")", x.weary(v[i]), was[i]);
      is("WEARY", x.now(2), v[i]);
    }
    outside("weary", 0, 99, OthersShare::weary);
  }

  private static void free() {
    Edge.says("3: FREE at a place (0 to 6) becomes v: what it was. BEYOND.");
    OthersShare x = new OthersShare();
    is("free(0, 1)", x.free(0, 1), 0);
    is("free(0, 0)", x.free(0, 0), 1);
    is("free(6, 0)", x.free(6, 0), 1);
    is("free(6, 1)", x.free(6, 1), 0);
    is("free(6, 1) again", x.free(6, 1), 1);
    outside("free, place", 0, 6, (y, v) -> y.free(v, 1));
    outside("free, v", 0, 1, (y, v) -> y.free(3, v));
  }

  private static void now() {
    Edge.says("4: What 0 DAY, .. 6 those that are BEHINDHAND, as a set. BEYOND.");
    asks("now(0)", Edge::rich, x -> x.now(0), 9);
    asks("now(6)", Edge::rich, x -> x.now(6), 16);
    outside("now", 0, 6, OthersShare::now);
  }

  private static void nowHoliday() {
    Edge.says("4: .. 1 1 if it is a HOLIDAY, else 0");
    is("on a HOLIDAY", Edge.at(6).now(1), 1);
    is("a DAY behind", Edge.at(7).now(1), 0);
    is("two DAYS ahead", Edge.at(4).now(1), 0);
    is("a DAY ahead", Edge.at(5).now(1), 1);
  }

  private static void nowPlayed() {
    Edge.says("4: .. 4 which part is played on this DAY (-1: none)");
    is("of no parts", new OthersShare().now(4), -1);
    is("of one", Edge.with(Edge.PART, 49).now(4), 0);
    is("of one that calls 0", Edge.with(Edge.PART, 50).now(4), -1);
    OthersShare x = Edge.with(Edge.GHOST, 0);
    x.set(0, 4, 1);
    is("of one PUT OFF", x.now(4), -1);
    x.set(0, 4, 0);
    x.set(0, 2, 1);
    is("of one DONE", x.now(4), -1);
    asks("of eight: the PET calls 45, the PART 29", Edge::full, y -> y.now(4), 2);
  }

  // ---- parts

  private static void part() {
    Edge.says("5: A new part, DUE by a day: its number. BEYOND: kind, due. FULL.");
    OthersShare x = new OthersShare();
    int[] dues = {0, 1, 9998, 9999, 0, 9999, 0, 9999};
    for (int part = 0; part < 8; part++) {
      is("its number", x.part(part % 6, dues[part]), part);
      is("its KIND", x.of(part, 0), part % 6);
      is("its DUE", x.of(part, 3), dues[part]);
    }
    outside("part, kind", 0, 5, (y, v) -> y.part(v, 0));
    outside("part, due", 0, 9999, (y, v) -> y.part(0, v));
    refuses("a 9th", Edge::full, y -> y.part(5, 9999), Edge.FULL);
    refuses("a 9th of no kind", Edge::full, y -> y.part(6, 0), BEYOND);
    refuses("a 9th of no day", Edge::full, y -> y.part(0, 10000), BEYOND);
    refuses("a 9th of no day below", Edge::full, y -> y.part(0, -1), BEYOND);
  }

  private static void of() {
    Edge.says("6: Of a part: what 0 KIND, .. 9 1 if it is DONE, else 0. BEYOND.");
    asks("of(4, 0)", Edge::rich, x -> x.of(4, 0), Edge.YOUNGEST);
    asks("of(4, 9)", Edge::rich, x -> x.of(4, 9), 0);
    asks("of(0, 9)", Edge::rich, x -> x.of(0, 9), 1);
    noPart("of", (x, v) -> x.of(v, 9));
    outside("of, what", 0, 9, (x, v) -> x.of(0, v));
  }

  private static void ofTheSilent() {
    Edge.says("6: .. 6 GIVES on this DAY, 7 CALLS, 8 100 and what it TIRES (of a part DONE or PUT OFF, too)");
    int[] gives = {3, 3, 4, 1, 2, 4};
    int[] calls = {49, 59, 44, 60, 59, 44};
    int[] tires = {106, 110, 97, 100, 110, 99};
    for (int kind = 0; kind < 6; kind++) {
      int asked = kind;
      Supplier<OthersShare> off = () -> silent(asked, 4, 99);
      Supplier<OthersShare> done = () -> silent(asked, 2, 9999);
      asks("GIVES of kind " + kind + ", PUT OFF", off, x -> x.of(0, 6), gives[kind]);
      asks("CALLS of kind " + kind + ", PUT OFF", off, x -> x.of(0, 7), calls[kind]);
      asks("TIRES of kind " + kind + ", PUT OFF", off, x -> x.of(0, 8), tires[kind]);
      asks("GIVES of kind " + kind + ", DONE", done, x -> x.of(0, 6), gives[kind]);
      asks("CALLS of kind " + kind + ", DONE", done, x -> x.of(0, 7), calls[kind]);
      asks("TIRES of kind " + kind + ", DONE", done, x -> x.of(0, 8), tires[kind]);
      asks("who is played, PUT OFF", off, x -> x.now(4), -1);
      asks("who is played, DONE", done, x -> x.now(4), -1);
    }
  }

  /** One part, due by the next day, that isn't played; weary 30. */
  private static OthersShare silent(int kind, int what, int v) {
    OthersShare x = Edge.with(kind, 1);
    x.weary(30);
    x.set(0, what, v);
    return x;
  }

  private static void set() {
    Edge.says("7: LONG (what 1), PLAYED (2; 0 to 9999), DUE (3), PUT OFF (4) of a part becomes v: what it was. BEYOND.");
    int[] low = {0, 1, 0, 0, 0};
    int[] high = {0, 99, 9999, 9999, 99};
    for (int what = 1; what <= 4; what++) {
      OthersShare x = Edge.full();
      int was = x.of(7, what);
      for (int v : new int[] {low[what], low[what] + 1, high[what] - 1, high[what]}) {
        is("set(7, " + what + ", " + v + ")", x.set(7, what, v), was);
        was = v;
      }
      is("of(7, " + what + ")", x.of(7, what), high[what]);
      int asked = what;
      outside("set of " + what, low[what], high[what], (y, v) -> y.set(1, asked, v));
      noPart("set of " + what, (y, v) -> y.set(v, asked, 1));
    }
    outside("set, what", 1, 4, (y, v) -> y.set(1, v, 1));
  }

  private static void turn() {
    Edge.says("8: A part becomes one of another KIND: what it was. BEYOND.");
    OthersShare x = Edge.full();
    is("turn(7, 5)", x.turn(7, 5), Edge.PET);
    is("turn(7, 0)", x.turn(7, 0), 5);
    is("turn(7, 0) again", x.turn(7, 0), 0);
    is("of(7, 0)", x.of(7, 0), 0);
    noPart("turn", (y, v) -> y.turn(v, 0));
    outside("turn, kind", 0, 5, (y, v) -> y.turn(1, v));
  }

  private static void as() {
    Edge.says("9: A part as one of a kind: PLAYED. BEYOND: no such part, kind. KIND: it isn't of that kind, nor ..");
    asks("a PET as a PET", Edge::rich, x -> x.as(2, Edge.PET), Edge.rich().of(2, 2));
    asks("a PET as a PART", Edge::rich, x -> x.as(2, Edge.PART), Edge.rich().of(2, 2));
    asks("an ADMIRAL as a SAILOR", Edge::rich, x -> x.as(3, Edge.SAILOR), Edge.rich().of(3, 2));
    refuses("a PET as a YOUNGEST", Edge::rich, x -> x.as(2, Edge.YOUNGEST), Edge.KIND);
    refuses("a SAILOR as an ADMIRAL", Edge::rich, x -> x.as(1, Edge.ADMIRAL), Edge.KIND);
    refuses("a YOUNGEST as a SAILOR", Edge::rich, x -> x.as(4, Edge.SAILOR), Edge.KIND);
    refuses("a SAILOR as a GHOST", Edge::rich, x -> x.as(1, Edge.GHOST), Edge.KIND);
    noPart("as", (x, v) -> x.as(v, 0));
    outside("as, kind", 0, 5, (x, v) -> x.as(1, v));
    refuses("no part of no kind", Edge::rich, x -> x.as(6, 6), BEYOND);
  }

  private static void left() {
    Edge.says("10: All that is left of a part, points (0: DONE). BEYOND.");
    OthersShare x = Edge.with(Edge.YOUNGEST, 0);
    int[] points = {0, 1, 13, 14, 15, 16, 9999};
    int[] left = {15, 14, 2, 1, 0, 0, 0};
    for (int i = 0; i < points.length; i++) {
      x.set(0, 2, points[i]);
      is("left, with " + points[i], x.left(0), left[i]);
      is("DONE, with " + points[i], x.of(0, 9), left[i] == 0 ? 1 : 0);
    }
    asks("left(1)", Edge::rich, y -> y.left(1), 0);
    noPart("left", OthersShare::left);
  }

  // ---- days

  private static void days() {
    Edge.says("11: n DAYS go (1 to 100): parts that are DONE then, as a set. BEYOND.");
    OthersShare x = Edge.with(Edge.GHOST, 0, Edge.PART, 148);
    is("days(1)", x.days(1), 1);
    is("DAY", x.now(0), 1);
    is("days(99)", x.days(99), 1);
    is("DAY", x.now(0), 100);
    is("days(2): the PART calls above 0 from DAY 99 on", x.days(2), 3);
    is("DAY", x.now(0), 102);
    is("days(100)", x.days(100), 3);
    is("DAY", x.now(0), 202);
    outside("days", 1, 100, OthersShare::days);
  }

  private static void daysState() {
    Edge.says("11: STATE: DAY would be above 9999.");
    is("to 9999 by one", Edge.at(9998).days(1), 0);
    is("to 9999 by 100", Edge.at(9899).days(100), 0);
    refuses("to 10000 by one", () -> Edge.at(9999), x -> x.days(1), Edge.STATE);
    refuses("to 10000 by two", () -> Edge.at(9998), x -> x.days(2), Edge.STATE);
    refuses("to 10000 by 100", () -> Edge.at(9900), x -> x.days(100), Edge.STATE);
    refuses("by 101, BEYOND is asked first", () -> Edge.at(9999), x -> x.days(101), BEYOND);
    refuses("by 0, BEYOND is asked first", () -> Edge.at(9999), x -> x.days(0), BEYOND);
    refuses("by the most there is", () -> Edge.at(9999), x -> x.days(HIGH), BEYOND);
  }

  private static void on() {
    Edge.says("12: PLAYED (what 0), 1 if it is DONE, else 0 (1) of a part ON n DAYS (0 to 400). BEYOND.");
    OthersShare x = Edge.with(Edge.PART, 446);
    is("ON 0, PLAYED", x.on(0, 0, 0), 0);
    is("ON 0, DONE", x.on(0, 0, 1), 0);
    is("ON 397, PLAYED", x.on(0, 397, 0), 0);
    is("ON 398, PLAYED", x.on(0, 398, 0), 4);
    is("ON 399, PLAYED", x.on(0, 399, 0), 8);
    is("ON 399, DONE", x.on(0, 399, 1), 0);
    is("ON 400, PLAYED", x.on(0, 400, 0), 12);
    is("ON 400, DONE", x.on(0, 400, 1), 1);
    asks("on(1, 0, 0)", Edge::rich, y -> y.on(1, 0, 0), Edge.rich().of(1, 2));
    asks("on(3, 400, 0)", Edge::rich, y -> y.on(3, 400, 1), 1);
    noPart("on", (y, v) -> y.on(v, 1, 0));
    outside("on, n", 0, 400, (y, v) -> y.on(1, v, 0));
    outside("on, what", 0, 1, (y, v) -> y.on(1, 1, v));
  }

  private static void then() {
    Edge.says("13: WEARY (what 0), LATE (1), how many are DONE (2) ON n DAYS (0 to 400). BEYOND.");
    OthersShare x = Edge.with(Edge.GHOST, 0, Edge.PART, 446);
    is("WEARY ON 0", x.then(0, 0), 0);
    is("DONE ON 0", x.then(0, 2), 0);
    is("DONE ON 1", x.then(1, 2), 1);
    is("DONE ON 399", x.then(399, 2), 1);
    is("WEARY ON 399, of two HOLIDAYS", x.then(399, 0), 4);
    is("DONE ON 400", x.then(400, 2), 2);
    is("WEARY ON 400", x.then(400, 0), 10);
    is("LATE ON 400", x.then(400, 1), 0);
    OthersShare y = Edge.rich();
    asks("then(0, 1)", Edge::rich, z -> z.then(0, 1), y.now(3));
    asks("then(400, 0)", Edge::rich, z -> z.then(400, 0), 0);
    is("of no parts", new OthersShare().then(400, 2), 0);
    outside("then, n", 0, 400, (z, v) -> z.then(v, 0));
    outside("then, what", 0, 2, (z, v) -> z.then(1, v));
  }

  /** It calls from DAY due - 49 on, and is DONE in three DAYS from then. */
  private static OthersShare aPart(int due) {
    return Edge.with(Edge.PART, due);
  }

  private static void done() {
    Edge.says("14: In how many DAYS (0 to 400) ON a part is DONE first. BEYOND. NONE.");
    OthersShare x = aPart(0);
    is("from the first DAY on", x.done(0), 3);
    x.set(0, 2, 9);
    is("in a DAY", x.done(0), 1);
    x.set(0, 2, 10);
    is("DONE", x.done(0), 0);
    asks("in 399", () -> aPart(445), y -> y.done(0), 399);
    asks("in 400", () -> aPart(446), y -> y.done(0), 400);
    refuses("in 401", () -> aPart(447), y -> y.done(0), Edge.NONE);
    refuses("never", () -> aPart(9999), y -> y.done(0), Edge.NONE);
    noPart("done", OthersShare::done);
  }

  private static void all() {
    Edge.says("15: In how many DAYS (0 to 400) ON all are DONE first. NONE.");
    asks("of no parts", OthersShare::new, x -> x.all(), 0);
    OthersShare x = aPart(0);
    x.set(0, 2, 10);
    is("all DONE", x.all(), 0);
    x.set(0, 2, 9);
    is("in a DAY", x.all(), 1);
    asks("in 399", () -> Edge.with(Edge.GHOST, 0, Edge.PART, 445), y -> y.all(), 399);
    asks("in 400", () -> Edge.with(Edge.GHOST, 0, Edge.PART, 446), y -> y.all(), 400);
    refuses("in 401", () -> Edge.with(Edge.GHOST, 0, Edge.PART, 447), y -> y.all(), Edge.NONE);
    refuses("in 401, the first", () -> Edge.with(Edge.PART, 447, Edge.GHOST, 0), y -> y.all(), Edge.NONE);
  }

  private static void played() {
    Edge.says("16: In how many DAYS (1 to 400) ON a part has been played next. BEYOND. NONE.");
    asks("on this DAY", () -> aPart(49), x -> x.played(0), 1);
    asks("on the next", () -> aPart(50), x -> x.played(0), 2);
    asks("in 399", () -> aPart(447), x -> x.played(0), 399);
    asks("in 400", () -> aPart(448), x -> x.played(0), 400);
    refuses("in 401", () -> aPart(449), x -> x.played(0), Edge.NONE);
    OthersShare y = aPart(0);
    y.days(1);
    is("has been played, and is next", y.played(0), 1);
    y.days(2);
    is("DONE, and never again", y.played(0), Edge.NONE);
    refuses("DONE", Edge::rich, x -> x.played(0), Edge.NONE);
    noPart("played", OthersShare::played);
  }

  // ---- what is best

  /** The ghost goes first, and the part is late by it; it isn't, if the ghost is put off. */
  private static OthersShare ghostAhead(int length, int partDue, int ghostDue) {
    OthersShare x = Edge.with(Edge.PART, partDue, Edge.GHOST, ghostDue);
    x.set(0, 1, length);
    return x;
  }

  private static void later() {
    Edge.says("17: The part that had best be PUT OFF for n days (1 to 60) now .. BEYOND.");
    asks("for a day", () -> ghostAhead(4, 0, 1), x -> x.later(1), 1);
    asks("for two", () -> ghostAhead(4, 0, 2), x -> x.later(2), 1);
    asks("for 59", () -> ghostAhead(4, 0, 59), x -> x.later(59), 1);
    asks("for 60", () -> ghostAhead(4, 0, 60), x -> x.later(60), 1);
    outside("later", 1, 60, OthersShare::later);
    refuses("for 61, where it would help", () -> ghostAhead(4, 0, 61), x -> x.later(61), BEYOND);
    refuses("for 0", () -> ghostAhead(4, 0, 0), x -> x.later(0), BEYOND);
    OthersShare x = Edge.with(Edge.GHOST, 5);
    x.set(0, 4, 9);
    is("PUT OFF for fewer days than as it is", x.later(5), 0);
    is("PUT OFF for too many", x.later(6), Edge.NONE);
  }

  /** A long sailor, behind it a part that is DONE in so many days; the ghost last, or first if the sailor is put off. */
  private static OthersShare chain(int length) {
    OthersShare x = Edge.school(Edge.with(Edge.SAILOR, 0, Edge.PART, 0, Edge.GHOST, 0));
    x.set(0, 1, 99);
    x.set(1, 1, length);
    return x;
  }

  private static void laterWithin200() {
    Edge.says("17: .. so that LATE is least ON 200 DAYS");
    is("the part is DONE in", chain(20).done(1), 200);
    asks("late on the last of 200 DAYS", () -> chain(20), x -> x.later(1), 0);
    is("the part is DONE in", chain(21).done(1), 201);
    refuses("late on the DAY behind them", () -> chain(21), x -> x.later(1), Edge.NONE);
    is("a long sailor is DONE in", longSailor(0).done(0), 180);
    refuses("late on the last of 200 DAYS, PUT OFF", () -> longSailor(0), x -> x.later(20), Edge.NONE);
    asks("late on the DAY behind them, PUT OFF", () -> longSailor(0), x -> x.later(21), 0);
    asks("late on the last of 200 DAYS as it is", () -> longSailor(20), x -> x.later(21), 0);
    refuses("late on the DAY behind them as it is", () -> longSailor(21), x -> x.later(22), Edge.NONE);
  }

  private static OthersShare longSailor(int off) {
    OthersShare x = schoolSailor(0);
    x.set(0, 1, 99);
    x.set(0, 4, off);
    return x;
  }

  /** A part, and ghosts of which all but the last are DONE. */
  private static OthersShare lastGhostAhead() {
    OthersShare x = aPartOf(4, 0);
    for (int ghost = 1; ghost < 8; ghost++) {
      x.part(Edge.GHOST, 1);
      x.set(ghost, 2, ghost < 7 ? 1 : 0);
    }
    return x;
  }

  private static void laterLess() {
    Edge.says("17: .. less than as it is; of several the least. .. NONE.");
    refuses("no parts", OthersShare::new, x -> x.later(60), Edge.NONE);
    refuses("none is late", () -> ghostAhead(4, 1, 1), x -> x.later(1), Edge.NONE);
    refuses("the ghost itself is late", () -> ghostAhead(4, 0, 0), x -> x.later(1), Edge.NONE);
    refuses("for 60, with a ghost that is DUE ahead", () -> ghostAhead(4, 0, 59), x -> x.later(60), Edge.NONE);
    OthersShare x = Edge.with(Edge.PART, 1, Edge.GHOST, 9, Edge.GHOST, 9);
    x.set(0, 1, 4);
    is("either of two ghosts", x.then(200, 1), 1);
    is("the least", x.later(3), 1);
    OthersShare y = Edge.with(Edge.GHOST, 9, Edge.PART, 0, Edge.GHOST, 9);
    y.set(1, 1, 4);
    y.set(0, 2, 1);
    is("the other one is DONE", y.later(3), 2);
    asks("the last of eight", OthersShareEdges::lastGhostAhead, z -> z.later(1), 7);
    refuses("none of eight", OthersShareEdges::eightGhosts, z -> z.later(60), Edge.NONE);
  }

  private static void kind() {
    Edge.says("18: The KIND as one of which a part is DONE soonest (within 400 DAYS); of several the least. BEYOND. NONE.");
    asks("DONE as each", () -> points(9999), x -> x.kind(0), Edge.PART);
    asks("DONE as a GHOST", () -> points(1), x -> x.kind(0), Edge.GHOST);
    asks("DONE as a PART or a GHOST", () -> points(10), x -> x.kind(0), Edge.PART);
    asks("in a day as a PART, a PET or a GHOST", () -> ofLength(4), x -> x.kind(0), Edge.PART);
    asks("in a day as a PET or a GHOST", () -> ofLength(5), x -> x.kind(0), Edge.PET);
    asks("in a day as a GHOST", () -> ofLength(6), x -> x.kind(0), Edge.GHOST);
    asks("in 399", () -> behindSailors(3, 10, 0), x -> x.kind(0), Edge.GHOST);
    asks("in 400", () -> behindSailors(3, 11, 1), x -> x.kind(0), Edge.GHOST);
    refuses("in 401", () -> behindSailors(3, 11, 0), x -> x.kind(0), Edge.NONE);
    noPart("kind", OthersShare::kind);
  }

  private static OthersShare points(int points) {
    OthersShare x = Edge.with(Edge.ADMIRAL, 0);
    x.set(0, 2, points);
    return x;
  }

  private static OthersShare ofLength(int length) {
    OthersShare x = Edge.with(Edge.ADMIRAL, 0);
    x.set(0, 1, length);
    return x;
  }

  /** A ghost behind sailors that call louder, so long that it is played on one DAY and not on another. */
  private static OthersShare behindSailors(int sailors, int lastLength, int lastPoints) {
    OthersShare x = Edge.school(Edge.with(Edge.GHOST, 9999));
    for (int sailor = 1; sailor <= sailors; sailor++) {
      x.part(Edge.SAILOR, 0);
      x.set(sailor, 1, sailor == sailors ? lastLength : 99);
    }
    x.set(sailors, 2, lastPoints);
    return x;
  }

  private static void sailorsAhead() {
    Edge.says("14: In how many DAYS (0 to 400) ON, behind others");
    is("three", behindSailors(3, 10, 0).done(0), 399);
    is("three, a point more", behindSailors(3, 11, 1).done(0), 400);
    is("three, and another", behindSailors(3, 11, 0).done(0), Edge.NONE);
    is("two", behindSailors(2, 10, 1).done(0), 200);
    is("two, a point more", behindSailors(2, 10, 0).done(0), 201);
  }

  private static void bears() {
    Edge.says("19: The greatest WEARY (0 to 99) now with which all are DONE ON n DAYS (1 to 200). BEYOND. NONE.");
    asks("of no parts", OthersShare::new, x -> x.bears(1), 99);
    asks("of a GHOST, ON 1", () -> Edge.with(Edge.GHOST, 0), x -> x.bears(1), 99);
    asks("long 1, ON 1", () -> aPartOf(1, 0), x -> x.bears(1), 99);
    asks("long 2, ON 1", () -> aPartOf(2, 0), x -> x.bears(1), 89);
    asks("long 3, ON 1", () -> aPartOf(3, 0), x -> x.bears(1), 59);
    asks("long 4, ON 1", () -> aPartOf(4, 0), x -> x.bears(1), 29);
    refuses("long 5, ON 1", () -> aPartOf(5, 0), x -> x.bears(1), Edge.NONE);
    asks("ON 199", () -> aPartOf(1, 247), x -> x.bears(199), 99);
    refuses("ON 199, a day more", () -> aPartOf(1, 248), x -> x.bears(199), Edge.NONE);
    asks("ON 200", () -> aPartOf(1, 248), x -> x.bears(200), 99);
    refuses("ON 200, a day more", () -> aPartOf(1, 249), x -> x.bears(200), Edge.NONE);
    asks("0 alone", OthersShareEdges::bearsNothing, x -> x.bears(6), 0);
    refuses("not even 0", OthersShareEdges::bearsNothing, x -> x.bears(5), Edge.NONE);
    asks("5 with 23 points in six DAYS", () -> aPartOf(23, 0), x -> x.bears(6), 5);
    refuses("less than 0 would be wanted for 24", () -> aPartOf(24, 0), x -> x.bears(6), Edge.NONE);
    outside("bears", 1, 200, OthersShare::bears);
  }

  private static OthersShare aPartOf(int length, int due) {
    OthersShare x = aPart(due);
    x.set(0, 1, length);
    return x;
  }

  /** Of 3, 3, 3, 2, 2, 2 points all six are needed, and with any weariness the last one isn't played. */
  private static OthersShare bearsNothing() {
    OthersShare x = Edge.school(Edge.with(Edge.ADMIRAL, 0));
    x.set(0, 1, 5);
    return x;
  }

  private static OthersShare schoolSailor(int due) {
    return Edge.school(Edge.with(Edge.SAILOR, due));
  }

  private static void holiday() {
    Edge.says("20: The place of FREE (0 to 6) that, a HOLIDAY (one that is none), lets all be DONE soonest (within 400 DAYS)");
    asks("all places, the least", () -> schoolSailor(0), x -> x.holiday(), 0);
    for (int place = 0; place < 7; place++) {
      int only = place;
      if (place < 3) {
        asks("the one that is none", () -> allFreeBut(only), x -> x.holiday(), only);
      } else {
        refuses("the one that is none, too late", () -> allFreeBut(only), x -> x.holiday(), Edge.NONE);
      }
    }
    OthersShare x = Edge.school(Edge.at(6));
    x.part(Edge.SAILOR, 0);
    x.set(0, 1, 3);
    is("in a day at 6 alone", x.holiday(), 6);
    x.free(6, 1);
    is("which is one", x.holiday(), Edge.NONE);
    is("in 401 as it is", schoolSailor(454).all(), Edge.NONE);
    asks("in 400", () -> schoolSailor(454), y -> y.holiday(), 0);
    is("in 402 as it is", schoolSailor(455).all(), Edge.NONE);
    refuses("in 401", () -> schoolSailor(455), y -> y.holiday(), Edge.NONE);
  }

  /** Every day but one is a HOLIDAY, and the sailor is DONE in three days, if that one is, too. */
  private static OthersShare allFreeBut(int place) {
    OthersShare x = Edge.vacation(Edge.with(Edge.SAILOR, 0));
    x.free(place, 0);
    return x;
  }

  private static void holidaySooner() {
    Edge.says("20: .. sooner than as it is; of several the least. NONE.");
    refuses("of no parts", OthersShare::new, x -> x.holiday(), Edge.NONE);
    refuses("with no school", () -> Edge.vacation(Edge.with(Edge.SAILOR, 0)), x -> x.holiday(), Edge.NONE);
    refuses("no sooner", () -> aPart(0), x -> x.holiday(), Edge.NONE);
    refuses("in 400 as it is, and no sooner", () -> aPart(446), x -> x.holiday(), Edge.NONE);
    refuses("in 401 as it is, and no sooner", () -> aPart(447), x -> x.holiday(), Edge.NONE);
    refuses("never", () -> aPart(9999), x -> x.holiday(), Edge.NONE);
    refuses("all DONE", () -> points(9999), x -> x.holiday(), Edge.NONE);
  }

  private static void last() {
    Edge.says("21: Which part is DONE last (within 400 DAYS; not at all: latest); of several the least. NONE: there is none.");
    refuses("no parts", OthersShare::new, x -> x.last(), Edge.NONE);
    asks("one", () -> aPart(0), x -> x.last(), 0);
    asks("one that never is", () -> aPart(9999), x -> x.last(), 0);
    asks("two that are DONE", () -> donePair(10, 10), x -> x.last(), 0);
    asks("one of two is DONE", () -> donePair(10, 9), x -> x.last(), 1);
    asks("in 400 and never", () -> Edge.with(Edge.PART, 446, Edge.PART, 9999), x -> x.last(), 1);
    asks("in 401 and never", () -> Edge.with(Edge.PART, 447, Edge.PART, 9999), x -> x.last(), 0);
    asks("never and never", () -> Edge.with(Edge.GHOST, 0, Edge.PART, 9999, Edge.PET, 9999), x -> x.last(), 1);
    asks("the last of eight", OthersShareEdges::eightGhosts, x -> x.last(), 7);
  }

  private static OthersShare donePair(int points, int otherPoints) {
    OthersShare x = Edge.with(Edge.PART, 0, Edge.PART, 0);
    x.set(0, 2, points);
    x.set(1, 2, otherPoints);
    return x;
  }

  private static OthersShare eightGhosts() {
    OthersShare x = new OthersShare();
    for (int part = 0; part < 8; part++) {
      x.part(Edge.GHOST, 0);
    }
    return x;
  }

  private static void longest() {
    Edge.says("22: The greatest LONG (1 to 99) of a part with which it is DONE behind the day on which it is DUE. BEYOND.");
    asks("on the DAY it is DUE", () -> aPart(0), x -> x.longest(0), 4);
    asks("a DAY more", () -> aPart(1), x -> x.longest(0), 8);
    asks("DONE with any", () -> points(9999), x -> x.longest(0), 99);
    asks("a ghost", () -> Edge.with(Edge.GHOST, 0), x -> x.longest(0), 99);
    asks("DONE with 99, not one more to be had", () -> pointsOfAPart(99), x -> x.longest(0), 99);
    asks("98 and a DAY's", () -> pointsOfAPart(94), x -> x.longest(0), 98);
    asks("1 alone", OthersShareEdges::tired, x -> x.longest(0), 1);
    noPart("longest", OthersShare::longest);
  }

  private static OthersShare pointsOfAPart(int points) {
    OthersShare x = aPart(0);
    x.set(0, 2, points);
    return x;
  }

  private static OthersShare tired() {
    OthersShare x = aPart(0);
    x.weary(99);
    return x;
  }

  private static OthersShare putOff() {
    OthersShare x = aPart(98);
    x.set(0, 4, 99);
    return x;
  }

  private static void longestNone() {
    Edge.says("22: .. (ON DUE less DAY, and 1, DAYS). .. NONE.");
    refuses("PUT OFF for all of 99 DAYS", OthersShareEdges::putOff, x -> x.longest(0), Edge.NONE);
    OthersShare x = putOff();
    x.set(0, 3, 99);
    is("PUT OFF for all but one of 100 DAYS", x.longest(0), 4);
    x.set(0, 2, 1);
    x.set(0, 3, 98);
    is("PUT OFF, and DONE if long 1", x.longest(0), 1);
    refuses("an ADMIRAL on a DAY", () -> Edge.with(Edge.ADMIRAL, 0), y -> y.longest(0), Edge.NONE);
  }

  private static OthersShare onDay(int day, int due) {
    OthersShare x = Edge.at(day);
    x.part(Edge.PART, due);
    return x;
  }

  private static void longestState() {
    Edge.says("22: .. STATE: DAY is above DUE, or these are more than 400.");
    asks("DAY is DUE", () -> onDay(5, 5), x -> x.longest(0), 4);
    refuses("DAY is above DUE", () -> onDay(5, 4), x -> x.longest(0), Edge.STATE);
    refuses("DAY is above DUE, DONE", () -> doneOnDay(5, 4), x -> x.longest(0), Edge.STATE);
    asks("399 DAYS", () -> doneOnDay(5, 403), x -> x.longest(0), 99);
    asks("400 DAYS", () -> doneOnDay(5, 404), x -> x.longest(0), 99);
    refuses("401 DAYS", () -> onDay(5, 405), x -> x.longest(0), Edge.STATE);
    refuses("401 DAYS, DONE", () -> doneOnDay(5, 405), x -> x.longest(0), Edge.STATE);
    asks("400 DAYS up to 9999", () -> doneOnDay(9600, 9999), x -> x.longest(0), 99);
    refuses("401 DAYS up to 9999", () -> onDay(9599, 9999), x -> x.longest(0), Edge.STATE);
    asks("the last DAY", () -> onDay(9999, 9999), x -> x.longest(0), 4);
    refuses("as far ahead as can be", () -> onDay(0, 9999), x -> x.longest(0), Edge.STATE);
    refuses("as far behind as can be", () -> onDay(9999, 0), x -> x.longest(0), Edge.STATE);
  }

  private static OthersShare doneOnDay(int day, int due) {
    OthersShare x = onDay(day, due);
    x.set(0, 2, 9999);
    return x;
  }

  private static void due() {
    Edge.says("23: The day (DAY to DAY and 60, up to 9999) by which a part had best be DUE .. of several the latest. BEYOND.");
    asks("DONE, all alike", () -> points(9999), x -> x.due(0), 60);
    asks("the latest with which it calls today", () -> aPart(0), x -> x.due(0), 49);
    asks("the latest with which it is ahead of another", () -> Edge.with(Edge.PART, 9, Edge.PART, 5), x -> x.due(0), 5);
    asks("and of one ahead of it", () -> Edge.with(Edge.PART, 9, Edge.PART, 5), x -> x.due(1), 8);
    asks("DAY itself", () -> Edge.with(Edge.PART, 9, Edge.PART, 0), x -> x.due(0), 0);
    asks("of a later DAY", () -> doneOnDay(70, 0), x -> x.due(0), 130);
    asks("up to 9998", () -> doneOnDay(9938, 0), x -> x.due(0), 9998);
    asks("up to 9999", () -> doneOnDay(9939, 0), x -> x.due(0), 9999);
    asks("no more", () -> doneOnDay(9940, 0), x -> x.due(0), 9999);
    asks("on the last DAY", () -> doneOnDay(9999, 0), x -> x.due(0), 9999);
    asks("DUE ahead and not by what it was", () -> onDay(70, 0), x -> x.due(0), 119);
    noPart("due", OthersShare::due);
  }

  private static void dueWithin200() {
    Edge.says("23: .. to be DONE soonest (within 200 DAYS) .. NONE.");
    asks("in 200", () -> behindSailors(2, 10, 1), x -> x.due(0), 60);
    refuses("in 201", () -> behindSailors(2, 10, 0), x -> x.due(0), Edge.NONE);
  }

  // ---- the text

  private static OthersShare taped(int bytes) {
    OthersShare x = Edge.rich();
    x.wipe();
    return Edge.type(x, "weary 7;".repeat(15).substring(0, bytes));
  }

  private static void feed() {
    Edge.says("24: THE TAPE gets the n lowest bytes of a number behind it, the highest of these first (n 1 to 4) .. BEYOND: n.");
    OthersShare x = new OthersShare();
    is("one", x.feed(0x78797a70, 1), 1);
    is("two", x.feed(0x787a6574, 2), 3);
    is("three", x.feed(0x7a203132, 3), 6);
    is("four", x.feed(0x33202020, 4), 10);
    is("all of them: pet 123", x.nursery(), 1);
    is("DUE", x.of(0, 3), 123);
    is("a number below 0", x.feed(-1, 4), 4);
    is("which begins no TOKEN", x.nursery(), -1);
    outside("feed, n", 1, 4, (y, v) -> y.feed(0x20202020, v));
  }

  private static void feedFull() {
    Edge.says("24: .. how many it has. .. FULL.");
    for (int n = 1; n <= 4; n++) {
      int bytes = n;
      OthersShare x = taped(120 - n);
      is("up to 120 by " + n, x.feed(0x20202020, n), 120);
      is("bytes", x.wipe(), 120);
      refuses("up to 121 by " + n, () -> taped(121 - bytes), y -> y.feed(0x20202020, bytes), Edge.FULL);
      refuses("with 120 and " + n, () -> taped(120), y -> y.feed(0x20202020, bytes), Edge.FULL);
    }
    refuses("none, with 120", () -> taped(120), x -> x.feed(0x20202020, 0), BEYOND);
    refuses("five, with 120", () -> taped(120), x -> x.feed(0x20202020, 5), BEYOND);
    OthersShare x = taped(118);
    is("three, with 118", x.feed(0x202020, 3), Edge.FULL);
    is("two, with 118, behind that", x.feed(0x2020, 2), 120);
  }

  private static void wipe() {
    Edge.says("25: THE TAPE is empty: how many it had.");
    is("none", new OthersShare().wipe(), 0);
    for (int bytes : new int[] {1, 119, 120}) {
      OthersShare x = taped(bytes);
      is("bytes", x.wipe(), bytes);
      is("wipe() again", x.wipe(), 0);
      is("count(1)", x.count(1), 0);
      is("nursery()", x.nursery(), -1);
      is("feed()", x.feed(' ', 1), 1);
    }
    OthersShare x = taped(120);
    x.wipe();
    Edge.type(x, "weary 70");
    is("nothing of what it had", x.nursery(), 1);
    is("WEARY", x.now(2), 70);
  }

  private static void nursery() {
    Edge.says("26: THE TAPE is THE TEXT of a NURSERY, whose ITEMS come to what there is, and empty then: how many ITEMS.");
    OthersShare x = taped(119);
    is("fifteen", x.nursery(), 15);
    is("the tape", x.count(1), 0);
    is("nursery() again", x.nursery(), -1);
    OthersShare y = Edge.rich();
    OthersShare twin = Edge.rich();
    y.wipe();
    twin.wipe();
    Edge.type(y, "ghost 9999 later 99;admiral 0 long 99");
    is("two", y.nursery(), 2);
    twin.part(Edge.GHOST, 9999);
    twin.set(6, 4, 99);
    twin.part(Edge.ADMIRAL, 0);
    twin.set(7, 1, 99);
    Edge.same("behind two", y, twin);
  }

  private static void nurseryFault() {
    Edge.says("26: With a FAULT: -1 less its place (nothing changes but that THE TAPE is empty; no finding).");
    String[] texts = {"", "?", " ?", "weary 9;free 0;school 6;pet 1;pet 2;pet 3", "weary 9;free 0;ghost 1 later 3 long 4",
        "weary 9".repeat(17) + "?", " ".repeat(119) + "?", "ghost 0;weary 100"};
    int[] places = {0, 0, 1, 36, 31, 7, 119, 14};
    for (int i = 0; i < texts.length; i++) {
      OthersShare x = Edge.rich();
      OthersShare twin = Edge.rich();
      x.wipe();
      twin.wipe();
      Edge.type(x, texts[i]);
      is("nursery() of \"" + texts[i] + "\"", x.nursery(), -1 - places[i]);
      is("count(1)", x.count(1), 0);
      for (int which = -1; which < 7; which++) {
        is("status(" + which + ")", x.status(which), twin.status(which));
      }
      Edge.same("behind \"" + texts[i] + "\"", x, twin);
    }
  }

  // ---- sheets

  private static void sheet() {
    Edge.says("27: A sheet has n numbers, all 0, of 8, 16 or 64 bits; bits 0: it is MISSING: n (0 if it is MISSING).");
    for (int bits : new int[] {8, 16, 64}) {
      for (int n : new int[] {0, 1, 39, 40}) {
        OthersShare x = Edge.rich();
        is("sheet(1, " + bits + ", " + n + ")", x.sheet(1, bits, n), n);
        Edge.sheetIs(x, 1, new long[n]);
        is("bits 0", x.sheet(1, 0, n), 0);
        is("MISSING", x.write(1, 0, 0), Edge.MISSING);
      }
    }
    OthersShare x = Edge.rich();
    is("bits 0 of none", x.sheet(3, 0, 40), 0);
    is("MISSING", x.book(3), Edge.MISSING);
    is("none isn't MISSING", x.sheet(3, 8, 0) + x.book(3), 0);
    is("fewer", x.sheet(2, 64, 2), 2);
    is("and more again", x.sheet(2, 64, 5), 5);
    Edge.sheetIs(x, 2, 0, 0, 0, 0, 0);
    Edge.sheetIs(x, 1, 300, 1, 2, 9999);
  }

  private static void sheetFindings() {
    Edge.says("27: BEYOND: no such sheet, other bits. SIZE: n is below 0 (also with bits 0). BEYOND: n is above 40 (also ..).");
    outside("sheet", 0, 3, (x, v) -> x.sheet(v, 8, 1));
    outside("sheet, n above 40,", LOW, 40, (x, v) -> x.sheet(1, 8, v > 40 ? v : 41));
    for (int bits : new int[] {-1, 1, 7, 9, 15, 17, 32, 63, 65, LOW, HIGH, LOW + 8, 1 << 8, (1 << 16) + 8}) {
      refuses(bits + " bits", Edge::rich, x -> x.sheet(1, bits, 1), BEYOND);
    }
    for (int bits : new int[] {0, 8, 16, 64}) {
      refuses("-1 of " + bits + " bits", Edge::rich, x -> x.sheet(1, bits, -1), Edge.SIZE);
      refuses("the least of " + bits + " bits", Edge::rich, x -> x.sheet(1, bits, LOW), Edge.SIZE);
      refuses("41 of " + bits + " bits", Edge::rich, x -> x.sheet(1, bits, 41), BEYOND);
      refuses("the most of " + bits + " bits", Edge::rich, x -> x.sheet(1, bits, HIGH), BEYOND);
    }
    refuses("no such sheet, ahead of SIZE", Edge::rich, x -> x.sheet(4, 8, -1), BEYOND);
    refuses("no such sheet below, ahead of SIZE", Edge::rich, x -> x.sheet(-1, 0, -1), BEYOND);
    refuses("other bits, ahead of SIZE", Edge::rich, x -> x.sheet(1, 9, -1), BEYOND);
  }

  private static void write() {
    Edge.says("28: Number i of a sheet becomes v (its lowest bits, with their sign): what it was.");
    long[] v = {127, 128, 255, 256, -128, -129, 32767, 32768, 65535, 65536, -32768, -32769, 1L << 32, Long.MAX_VALUE,
        Long.MIN_VALUE, -1};
    long[] of8 = {127, -128, -1, 0, -128, 127, -1, 0, -1, 0, 0, -1, 0, -1, 0, -1};
    long[] of16 = {127, 128, 255, 256, -128, -129, 32767, -32768, -1, 0, -32768, 32767, 0, -1, 0, -1};
    OthersShare x = new OthersShare();
    x.sheet(0, 8, 40);
    x.sheet(1, 16, 40);
    x.sheet(2, 64, 40);
    long was8 = 0;
    long was16 = 0;
    long was64 = 0;
    for (int i = 0; i < v.length; i++) {
      is("of 8 bits", x.write(0, 39, v[i]), was8);
      is("of 16 bits", x.write(1, 39, v[i]), was16);
      is("of 64 bits", x.write(2, 39, v[i]), was64);
      was8 = of8[i];
      was16 = of16[i];
      was64 = v[i];
    }
    is("the one ahead", x.write(2, 38, 0), 0);
    is("the first", x.write(2, 0, BEYOND), 0);
    is("a number that looks like a finding", x.write(2, 0, 0), BEYOND);
    is("which is none", x.status(-1), 0);
  }

  private static void writeFindings() {
    Edge.says("28: BEYOND: no such sheet. MISSING. BEYOND: no such number.");
    outside("write, sheet", 0, 3, (x, v) -> x.write(v, 0, 1));
    outside("write, number", 0, 3, (x, v) -> x.write(1, v, 1));
    refuses("MISSING", Edge::rich, x -> x.write(3, 0, 1), Edge.MISSING);
    refuses("MISSING, ahead of the number", Edge::rich, x -> x.write(3, -1, 1), Edge.MISSING);
    refuses("no such sheet, nor number", Edge::rich, x -> x.write(4, 40, 1), BEYOND);
    refuses("number 0 of none", OthersShareEdges::emptySheet, x -> x.write(3, 0, 1), BEYOND);
    OthersShare x = Edge.rich();
    is("the last", x.write(1, 3, 1), 9999);
    is("the first", x.write(1, 0, 1), 300);
  }

  private static OthersShare emptySheet() {
    OthersShare x = Edge.rich();
    x.sheet(3, 16, 0);
    return x;
  }

  /** Sheets 0 and 1 of five and three numbers of 8 bits, 2 of five of 16, 3 MISSING. */
  private static OthersShare copies() {
    OthersShare x = Edge.rich();
    Edge.sheet(x, 0, 8, 1, 2, 3, 4, 5);
    Edge.sheet(x, 1, 8, 6, 7, 8);
    Edge.sheet(x, 2, 16, 1, 2, 3, 4, 5);
    return x;
  }

  private static void copied(int from, int t, int to, int n, long... numbers) {
    OthersShare x = copies();
    is("copy(0, " + from + ", " + t + ", " + to + ", " + n + ")", x.copy(0, from, t, to, n), n);
    Edge.sheetIs(x, t, numbers);
    Edge.sheetIs(x, 2, 1, 2, 3, 4, 5);
  }

  private static void copy() {
    Edge.says("29: n numbers of a sheet from one on come to another one from one on (as they all were): n.");
    copied(0, 1, 0, 0, 6, 7, 8);
    copied(5, 1, 3, 0, 6, 7, 8);
    copied(0, 1, 0, 3, 1, 2, 3);
    copied(2, 1, 0, 3, 3, 4, 5);
    copied(4, 1, 2, 1, 6, 7, 5);
    copied(0, 0, 0, 5, 1, 2, 3, 4, 5);
    copied(0, 0, 1, 4, 1, 1, 2, 3, 4);
    copied(1, 0, 0, 4, 2, 3, 4, 5, 5);
    copied(0, 0, 4, 1, 1, 2, 3, 4, 1);
    OthersShare x = Edge.rich();
    x.sheet(0, 64, 40);
    x.sheet(2, 64, 40);
    x.write(0, 39, Long.MIN_VALUE);
    is("forty", x.copy(0, 0, 2, 0, 40), 40);
    is("the last", x.write(2, 39, 0), Long.MIN_VALUE);
    is("itself stays", x.write(0, 39, 0), Long.MIN_VALUE);
  }

  private static void copyFindings() {
    Edge.says("29: BEYOND: no such sheet (either). MISSING: one is. KIND: they are not of as many bits. BEYOND: ..");
    outside("copy, sheet", 0, 3, (x, v) -> x.copy(v, 0, 1, 0, 1));
    outside("copy, to sheet", 0, 3, (x, v) -> x.copy(1, 0, v, 0, 1));
    refuses("no such sheet, and one MISSING", OthersShareEdges::copies, x -> x.copy(3, 0, 4, 0, 1), BEYOND);
    refuses("one MISSING, and no such sheet", OthersShareEdges::copies, x -> x.copy(-1, 0, 3, 0, 1), BEYOND);
    refuses("the one MISSING", OthersShareEdges::copies, x -> x.copy(3, 0, 0, 0, 1), Edge.MISSING);
    refuses("the other MISSING", OthersShareEdges::copies, x -> x.copy(0, 0, 3, 0, 1), Edge.MISSING);
    refuses("both MISSING", OthersShareEdges::copies, x -> x.copy(3, 0, 3, 0, 0), Edge.MISSING);
    refuses("MISSING, and n below 0", OthersShareEdges::copies, x -> x.copy(3, -1, 0, -1, -1), Edge.MISSING);
    refuses("of other bits", OthersShareEdges::copies, x -> x.copy(0, 0, 2, 0, 1), Edge.KIND);
    refuses("of other bits, none", OthersShareEdges::copies, x -> x.copy(2, 0, 0, 0, 0), Edge.KIND);
    refuses("of other bits, and n below 0", OthersShareEdges::copies, x -> x.copy(0, -1, 2, 0, -1), Edge.KIND);
  }

  private static void copyBeyond() {
    Edge.says("29: .. BEYOND: one has not so many, or from, to or n is below 0.");
    int[][] faults = {{0, 0, 4}, {1, 0, 5}, {3, 0, 3}, {5, 0, 1}, {6, 0, 0}, {0, 1, 3}, {0, 3, 1}, {0, 4, 0}, {-1, 0, 1},
        {-1, 0, 0}, {0, -1, 1}, {0, -1, 0}, {0, 0, -1}, {1, 1, -1}, {LOW, 0, 1}, {0, LOW, 1}, {0, 0, LOW}, {HIGH, 0, 1},
        {0, HIGH, 1}, {0, 0, HIGH}, {1, 0, HIGH}, {HIGH, 0, HIGH}, {HIGH, HIGH, 2}, {1, 1, HIGH}, {LOW, LOW, LOW},
        {HIGH, 0, 0}, {0, HIGH, 0}};
    for (int[] f : faults) {
      refuses("copy(0, " + f[0] + ", 1, " + f[1] + ", " + f[2] + ")", OthersShareEdges::copies,
          x -> x.copy(0, f[0], 1, f[1], f[2]), BEYOND);
    }
    refuses("one more than it has, onto itself", OthersShareEdges::copies, x -> x.copy(0, 0, 0, 1, 5), BEYOND);
    refuses("one more than it has, from itself", OthersShareEdges::copies, x -> x.copy(0, 1, 0, 0, 5), BEYOND);
    refuses("six of five, to the same", OthersShareEdges::copies, x -> x.copy(0, 0, 0, 0, 6), BEYOND);
  }

  private static void lays() {
    Edge.says("30: Numbers of a sheet become DUE of PARTS 0, 1, .. (those that aren't 0 to 9999, or stand for none, are left out)");
    OthersShare x = Edge.with(Edge.PART, 5, Edge.PART, 5, Edge.PART, 5, Edge.PART, 5, Edge.PART, 5, Edge.PART, 5);
    long[] numbers = {-1, 0, 1, 9999, 10000, 9998, 7, 8};
    Edge.sheet(x, 0, 16, numbers);
    is("six parts, of eight numbers", x.lays(0), 4);
    int[] dues = {5, 0, 1, 9999, 5, 9998};
    for (int part = 0; part < 6; part++) {
      is("DUE of " + part, x.of(part, 3), dues[part]);
    }
    Edge.sheet(x, 1, 64, (1L << 32) + 3, Long.MIN_VALUE, Long.MAX_VALUE, 1L << 63 | 4, (1L << 16) + 6);
    is("numbers far away", x.lays(1), 0);
    is("DUE of 0", x.of(0, 3), 5);
    is("DUE of 4", x.of(4, 3), 5);
    Edge.sheet(x, 2, 8, 3);
    is("one number", x.lays(2), 1);
    is("DUE of 0", x.of(0, 3), 3);
    is("DUE of 1", x.of(1, 3), 0);
    asks("of no numbers", OthersShareEdges::emptySheet, y -> y.lays(3), 0);
    OthersShare none = new OthersShare();
    none.sheet(0, 8, 40);
    is("of no parts", none.lays(0), 0);
    is("no part comes", none.count(0), 0);
    OthersShare eight = Edge.full();
    eight.sheet(0, 16, 40);
    is("of eight parts and forty numbers", eight.lays(0), 8);
    is("DUE of 7", eight.of(7, 3), 0);
  }

  private static void laysFindings() {
    Edge.says("30: .. how many came. BEYOND: no such sheet. MISSING.");
    outside("lays", 0, 3, OthersShare::lays);
    refuses("MISSING", Edge::rich, x -> x.lays(3), Edge.MISSING);
  }

  private static void book() {
    Edge.says("31: A book: which part is played (-1: none) on the DAY that is 0, 1, 2, .. DAYS ON .. as many as it has numbers");
    OthersShare x = Edge.with(Edge.PART, 88);
    for (int bits : new int[] {8, 16, 64}) {
      x.sheet(0, bits, 40);
      is("forty", x.book(0), 40);
      is("on this DAY", x.write(0, 0, 0), -1);
      is("38 DAYS ON", x.write(0, 38, 0), -1);
      is("39 DAYS ON", x.write(0, 39, 0), 0);
    }
    x.sheet(0, 8, 1);
    is("one", x.book(0), 1);
    is("on this DAY", x.write(0, 0, 0), -1);
    asks("none", OthersShareEdges::emptySheet, y -> y.book(3), 0);
    OthersShare none = new OthersShare();
    none.sheet(0, 8, 2);
    is("of no parts", none.book(0), 2);
    Edge.sheetIs(none, 0, -1, -1);
    OthersShare eight = eightGhosts();
    eight.sheet(3, 8, 9);
    is("of eight", eight.book(3), 9);
    Edge.sheetIs(eight, 3, 0, 1, 2, 3, 4, 5, 6, 7, -1);
    is("DAY", eight.now(0), 0);
    is("DONE", eight.now(5), 0);
  }

  private static void bookFindings() {
    Edge.says("31: .. how many. BEYOND: no such sheet. MISSING.");
    outside("book", 0, 3, OthersShare::book);
    refuses("MISSING", Edge::rich, x -> x.book(3), Edge.MISSING);
  }

  private static void read() {
    Edge.says("32: THE READER: .. how many pairs of a KIND and WEARY (0 to 99) now make it just so.");
    OthersShare x = Edge.school(aPart(0));
    x.sheet(0, 64, 0);
    is("no numbers, all pairs", x.read(0, 0), 600);
    Edge.sheet(x, 0, 64, 0);
    is("PLAYED now, all pairs", x.read(0, 0), 600);
    Edge.sheet(x, 0, 64, 1);
    is("another PLAYED now, none", x.read(0, 0), 0);
    Edge.sheet(x, 0, 64, 1L << 32);
    is("one that is so in its lowest bits alone", x.read(0, 0), 0);
    // PART and SAILOR from 90 to 99, GHOST from 0 to 99.
    Edge.sheet(x, 0, 64, 0, 1);
    is("one in a day", x.read(0, 0), 10 + 10 + 100);
    // PET from 90 to 99, PART and SAILOR from 60 to 89, ADMIRAL from 30 to 50.
    Edge.sheet(x, 0, 64, 0, 2);
    is("two in a day", x.read(0, 0), 10 + 30 + 30 + 21);
    // ADMIRAL from 51 to 99, YOUNGEST from 81 to 99.
    Edge.sheet(x, 0, 64, 0, 0);
    is("none in a day", x.read(0, 0), 49 + 19);
    Edge.sheet(x, 0, 64, 0, 1, 1, 2);
    is("a GHOST is DONE, and no other goes so", x.read(0, 0), 0);
    x.sheet(0, 64, 40);
    x.set(0, 4, 39);
    is("PUT OFF for all of forty", x.read(0, 0), 600);
    x.set(0, 4, 38);
    is("PUT OFF for all but the last", x.read(0, 0), 0);
    x.write(0, 39, 1);
    is("that is a GHOST's", x.read(0, 0), 100);
    asks("of no numbers", OthersShareEdges::emptySheet, y -> y.read(3, 5), 600);
  }

  private static void readFindings() {
    Edge.says("32: BEYOND: no such sheet. MISSING. BEYOND: part.");
    outside("read, sheet", 0, 3, (x, v) -> x.read(v, 0));
    outside("read, part", 0, 5, (x, v) -> x.read(1, v));
    refuses("read of part 8", Edge::full, x -> x.read(1, 8), BEYOND);
    refuses("read of part 0 of none", OthersShareEdges::sheetAlone, x -> x.read(0, 0), BEYOND);
    refuses("MISSING", Edge::rich, x -> x.read(3, 0), Edge.MISSING);
    refuses("MISSING, ahead of the part", Edge::rich, x -> x.read(3, 6), Edge.MISSING);
    refuses("no such sheet, nor part", Edge::rich, x -> x.read(4, -1), BEYOND);
    refuses("no such part of no numbers", OthersShareEdges::emptySheet, x -> x.read(3, 6), BEYOND);
  }

  private static OthersShare sheetAlone() {
    OthersShare x = new OthersShare();
    x.sheet(0, 8, 1);
    return x;
  }

  // ---- images

  private static void image() {
    Edge.says("33: All that section 1 tells (THE TAPE not) is kept: 1.");
    is("of a new one", new OthersShare().image(), 1);
    OthersShare x = Edge.rich();
    OthersShare twin = Edge.rich();
    is("of a rich one", x.image(), 1);
    is("and again", x.image(), 1);
    x.days(9);
    x.part(Edge.PET, 1);
    x.part(Edge.PET, 1);
    x.turn(0, Edge.PET);
    for (int what = 1; what <= 4; what++) {
      x.set(4, what, 77);
    }
    x.weary(1);
    Edge.vacation(x);
    is("its parts", x.undo(), 6);
    twin.image();
    Edge.same("behind undo()", x, twin);
    OthersShare tape = Edge.type(new OthersShare(), "weary 1");
    tape.image();
    Edge.type(tape, "2");
    tape.sheet(0, 8, 1);
    tape.undo();
    is("THE TAPE isn't", tape.count(1), 8);
    is("nor a sheet", tape.write(0, 0, 0), 0);
  }

  private static void undo() {
    Edge.says("34: It becomes what was kept latest (which stays): how many PARTS. NONE: nothing is kept.");
    refuses("nothing is kept", () -> Edge.type(Edge.with(Edge.PET, 1), "pet 1"), x -> x.undo(), Edge.NONE);
    OthersShare x = new OthersShare();
    x.image();
    eight(x);
    is("none", x.undo(), 0);
    is("count(0)", x.count(0), 0);
    eight(x);
    x.image();
    x.turn(7, Edge.GHOST);
    is("eight", x.undo(), 8);
    is("of(7, 0)", x.of(7, 0), Edge.PET);
    x.turn(7, Edge.GHOST);
    is("eight again", x.undo(), 8);
    is("of(7, 0)", x.of(7, 0), Edge.PET);
    is("still FULL", x.part(0, 0), Edge.FULL);
    OthersShare y = Edge.rich();
    int before = y.status(-1);
    y.weary(100);
    y.undo();
    is("findings aren't taken back", y.status(-1), before + 1);
  }

  private static void eight(OthersShare x) {
    for (int part = 0; part < 8; part++) {
      is("part", x.part(Edge.PET, 0), part);
    }
  }

  private static void tear() {
    Edge.says("35: Nothing is kept: 1 if something was, else 0.");
    is("of a new one", new OthersShare().tear(), 0);
    OthersShare x = Edge.rich();
    is("what was kept", x.tear(), 1);
    is("tear() again", x.tear(), 0);
    is("undo()", x.undo(), Edge.NONE);
    x.image();
    x.image();
    is("kept twice", x.tear(), 1);
    is("torn at once", x.tear(), 0);
    is("what there is stays", x.count(0), 6);
    OthersShare y = Edge.rich();
    y.undo();
    is("undo() takes nothing away", y.tear(), 1);
    asks("of nothing", () -> Edge.with(Edge.PET, 1), z -> z.tear(), 0);
  }

  private static void count() {
    Edge.says("36: 0 PARTS, 1 bytes of THE TAPE, 2 HOLIDAYS of a week, 3 PLAYED of all together. BEYOND: another what.");
    for (int what = 0; what <= 3; what++) {
      is("of a new one, " + what, new OthersShare().count(what), what == 2 ? 2 : 0);
    }
    OthersShare x = Edge.vacation(new OthersShare());
    eight(x);
    for (int part = 0; part < 8; part++) {
      x.set(part, 2, 9999);
    }
    Edge.type(x, " ".repeat(120));
    int[] most = {8, 120, 7, 79992};
    for (int what = 0; what <= 3; what++) {
      is("the most, " + what, x.count(what), most[what]);
    }
    is("no HOLIDAYS", Edge.school(new OthersShare()).count(2), 0);
    asks("count(3)", Edge::rich, y -> y.count(3), Edge.rich().of(0, 2) + Edge.rich().of(1, 2) + Edge.rich().of(2, 2)
        + Edge.rich().of(3, 2) + Edge.rich().of(4, 2) + Edge.rich().of(5, 2));
    outside("count", 0, 3, OthersShare::count);
  }

  private static void status() {
    Edge.says("37: How many acts answered a finding ever (undo() takes none back): which -1: all, 0 to 6: BEYOND to SIZE.");
    for (int which = -1; which <= 6; which++) {
      is("of a new one, " + which, new OthersShare().status(which), 0);
    }
    OthersShare x = Edge.full();
    x.wipe();
    int beyond = x.status(0);
    x.image();
    Edge.Call[] acts = {y -> y.weary(-1), y -> y.part(0, 0), y -> y.as(0, 1), y -> y.done(7), y -> y.longest(0),
        y -> y.book(3), y -> y.sheet(0, 0, -1)};
    for (int which = 0; which <= 6; which++) {
      for (int i = 0; i <= which; i++) {
        is("finding " + which, acts[which].of(x), BEYOND - which);
      }
    }
    x.undo();
    x.nursery();
    for (int which = 0; which <= 6; which++) {
      is("status(" + which + ")", x.status(which), which + 1 + (which == 0 ? beyond : 0));
    }
    is("status(-1)", x.status(-1), 28 + beyond);
  }

  private static void statusBeyond() {
    Edge.says("37: .. BEYOND (counted from then on): another one.");
    outside("status", -1, 6, OthersShare::status);
    OthersShare x = new OthersShare();
    is("status(7)", x.status(7), BEYOND);
    is("status(0)", x.status(0), 1);
    is("status(-2)", x.status(-2), BEYOND);
    is("status(-1)", x.status(-1), 2);
    is("status(6)", x.status(6), 0);
  }

  private static void nurseryAndParts() {
    made();
    weary();
    free();
    now();
    nowHoliday();
    nowPlayed();
    part();
    of();
    ofTheSilent();
    set();
    turn();
    as();
    left();
  }

  private static void daysAndWhatIsBest() {
    days();
    daysState();
    on();
    then();
    done();
    sailorsAhead();
    all();
    played();
    later();
    laterWithin200();
    laterLess();
    kind();
    bears();
    holiday();
    holidaySooner();
    last();
    longest();
    longestNone();
    longestState();
    due();
    dueWithin200();
  }

  private static void textAndSheets() {
    feed();
    feedFull();
    wipe();
    nursery();
    nurseryFault();
    sheet();
    sheetFindings();
    write();
    writeFindings();
    copy();
    copyFindings();
    copyBeyond();
    lays();
    laysFindings();
    book();
    bookFindings();
    read();
    readFindings();
  }

  public static void main(String[] args) {
    nurseryAndParts();
    daysAndWhatIsBest();
    textAndSheets();
    image();
    undo();
    tear();
    count();
    status();
    statusBeyond();
    Edge.end();
  }
}
