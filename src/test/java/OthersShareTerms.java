import java.lang.reflect.Field;

/** Each sentence of "What it is" and of "Terms" that names a boundary case, in the document's order. */
public final class OthersShareTerms {
  private static final int[] KINDS = {Edge.PART, Edge.SAILOR, Edge.PET, Edge.GHOST, Edge.ADMIRAL, Edge.YOUNGEST};

  private static void is(String what, long got, long want) {
    Edge.is(what, got, want);
  }

  /** A part of a kind at an age of the nursery, of so much weariness, on a holiday or not. */
  private static OthersShare one(int kind, int weary, boolean holiday) {
    OthersShare x = holiday ? Edge.vacation(Edge.with(kind, 0)) : Edge.school(Edge.with(kind, 0));
    x.weary(weary);
    return x;
  }

  private static int wearyBehind(OthersShare x, int weary) {
    x.weary(weary);
    x.days(1);
    return x.now(2);
  }

  // ---- what it is, the findings

  private static void calls512() {
    Edge.says("An object is used for at most 512 calls after it has been made");
    OthersShare x = new OthersShare();
    for (int i = 1; i <= 510; i++) {
      x.weary(100);
    }
    is("the 511th call, status(0)", x.status(0), 510);
    is("the 512th call, status(-1)", x.status(-1), 510);
    OthersShare y = Edge.with(Edge.SAILOR, 7);
    y.image();
    for (int i = 3; i <= 511; i++) {
      y.turn(0, i % 6);
    }
    is("the 512th call, undo()", y.undo(), 1);
    OthersShare z = new OthersShare();
    for (int i = 1; i <= 504; i++) {
      z.days(1);
    }
    for (int part = 0; part < 8; part++) {
      is("part() up to the 512th call", z.part(0, 0), part);
    }
  }

  private static void findings() {
    Edge.says("FINDINGS are answers below -1000000000: -1000000001 BEYOND .. -1000000007 SIZE (in longs, too)");
    OthersShare x = Edge.full();
    int before = x.status(-1);
    is("BEYOND", x.weary(-1), -1000000001L);
    is("FULL", x.part(0, 0), -1000000002L);
    is("KIND", x.as(0, Edge.SAILOR), -1000000003L);
    is("NONE", x.played(0), -1000000004L);
    is("STATE", x.longest(1), -1000000005L);
    is("MISSING", x.lays(3), -1000000006L);
    is("SIZE", x.sheet(3, 8, -1), -1000000007L);
    is("BEYOND in a long", x.write(4, 0, 0), -1000000001L);
    is("MISSING in a long", x.write(3, 0, 0), -1000000006L);
    is("all of them", x.status(-1), before + 9);
  }

  private static void quotients() {
    Edge.says("Quotients are cut.");
    int[] weary = {0, 29, 30, 31, 59, 60, 89, 90, 99};
    int[] gives = {4, 4, 3, 3, 3, 2, 2, 1, 1};
    for (int i = 0; i < weary.length; i++) {
      is("what a PART gives, weary " + weary[i], one(Edge.PART, weary[i], false).of(0, 6), gives[i]);
    }
    OthersShare x = Edge.with(Edge.YOUNGEST, 0);
    int[] length = {1, 2, 3, 98, 99};
    int[] needs = {1, 3, 4, 147, 148};
    for (int i = 0; i < length.length; i++) {
      x.set(0, 1, length[i]);
      is("what a YOUNGEST needs, long " + length[i], x.of(0, 5), needs[i]);
    }
  }

  private static void sets() {
    Edge.says("Sets are told by bits.");
    OthersShare x = new OthersShare();
    is("DONE of none", x.now(5), 0);
    is("BEHINDHAND of none", x.now(6), 0);
    is("DONE behind a day of none", x.days(1), 0);
    for (int part = 0; part < 8; part++) {
      x.part(Edge.PART, 0);
      x.set(part, 4, 99);
      is("BEHINDHAND with a part more", x.now(6), (2 << part) - 1);
    }
    x.set(7, 2, 10);
    is("DONE, the last alone", x.now(5), 128);
    is("BEHINDHAND, all but the last", x.now(6), 127);
    x.set(0, 2, 10);
    is("DONE behind a day, the first and the last", x.days(1), 129);
    for (int part = 1; part < 7; part++) {
      x.set(part, 2, 10);
    }
    is("DONE, all", x.now(5), 255);
    is("DONE behind a day, all", x.days(1), 255);
    is("BEHINDHAND of all DONE", x.now(6), 0);
  }

  // ---- the ranges of the nursery's numbers

  private static void dayRange() {
    Edge.says("DAY: 0 at first (9999 at most)");
    OthersShare x = new OthersShare();
    is("DAY at first", x.now(0), 0);
    Edge.pass(x, 9998);
    is("DAY", x.now(0), 9998);
    is("a day more", x.days(1), 0);
    is("DAY at most", x.now(0), 9999);
    Edge.refuses("a day more than that", () -> Edge.at(9999), y -> y.days(1), Edge.STATE);
  }

  private static void wearyRange() {
    Edge.says("WEARY (0 to 99; 0 at first)");
    is("WEARY at first", new OthersShare().now(2), 0);
    OthersShare x = new OthersShare();
    is("weary(99)", x.weary(99), 0);
    is("WEARY", x.now(2), 99);
    is("weary(0)", x.weary(0), 99);
    is("WEARY", x.now(2), 0);
    Edge.refuses("weary(-1)", Edge::rich, y -> y.weary(-1), Edge.BEYOND);
    Edge.refuses("weary(100)", Edge::rich, y -> y.weary(100), Edge.BEYOND);
  }

  private static void freeRange() {
    Edge.says("FREE: 7 numbers (0, 1; 1 at places 5 and 6 at first, 0 else)");
    OthersShare x = new OthersShare();
    int[] first = {0, 0, 0, 0, 0, 1, 1};
    for (int place = 0; place < 7; place++) {
      is("FREE at first at " + place, x.free(place, 1 - first[place]), first[place]);
      is("FREE behind that at " + place, x.free(place, 0), 1 - first[place]);
    }
    is("all are 0", x.count(2), 0);
  }

  private static void dayOfTheWeek() {
    Edge.says("whether the day of the week (the rest of DAY by 7) is a HOLIDAY");
    for (int place = 0; place < 7; place++) {
      OthersShare x = Edge.school(new OthersShare());
      x.free(place, 1);
      for (int day = 0; day < 15; day++) {
        is("a HOLIDAY at " + place + ", DAY " + day, x.now(1), day % 7 == place ? 1 : 0);
        x.days(1);
      }
    }
    OthersShare late = Edge.school(Edge.at(9999));
    late.free(3, 1);
    is("DAY 9999 is of place 3", late.now(1), 1);
    late.free(3, 0);
    is("DAY 9999 is of no other", late.now(1), 0);
  }

  private static void lateBehindDue() {
    Edge.says("LATE: how many parts were DONE behind the day they were DUE (0 at first");
    is("LATE at first", new OthersShare().now(3), 0);
    for (int due = 0; due <= 4; due++) {
      OthersShare x = Edge.with(Edge.GHOST, due);
      x.set(0, 4, 2);
      x.days(3);
      is("DONE on DAY 2, DUE " + due, x.now(5), 1);
      is("LATE, DONE on DAY 2, DUE " + due, x.now(3), due < 2 ? 1 : 0);
      x.days(3);
      is("LATE behind that", x.now(3), due < 2 ? 1 : 0);
    }
    OthersShare many = Edge.with(Edge.GHOST, 0);
    many.days(1);
    for (int i = 1; i <= 200; i++) {
      many.set(0, 2, 0);
      many.days(1);
    }
    is("LATE of one that is DONE again and again", many.now(3), 200);
  }

  private static Object home(OthersShare x) throws ReflectiveOperationException {
    Field home = OthersShare.class.getDeclaredField("home");
    home.setAccessible(true);
    return home.get(x);
  }

  private static Field field(Object nursery, String name) throws ReflectiveOperationException {
    Field field = nursery.getClass().getDeclaredField(name);
    field.setAccessible(true);
    return field;
  }

  /** No run of 512 calls comes there, so the number is put from within. */
  private static void lateHeld() throws ReflectiveOperationException {
    Edge.says("LATE: .. held to 9999");
    for (int late = 9997; late <= 9999; late++) {
      OthersShare x = Edge.with(Edge.GHOST, 0);
      x.set(0, 4, 1);
      field(home(x), "late").setInt(home(x), late);
      is("LATE ON two DAYS from " + late, x.then(2, 1), Math.min(9999, late + 1));
      x.days(2);
      is("LATE behind one more than " + late, x.now(3), Math.min(9999, late + 1));
    }
  }

  private static void partsRange() {
    Edge.says("PARTS 0, 1, .. (at most 8)");
    OthersShare x = new OthersShare();
    for (int part = 0; part < 8; part++) {
      is("parts ahead", x.count(0), part);
      is("of the one that isn't yet", x.of(part, 0), Edge.BEYOND);
      is("its number", x.part(Edge.PET, 0), part);
      is("of it", x.of(part, 0), Edge.PET);
    }
    is("of a 9th", x.of(8, 0), Edge.BEYOND);
    is("of one below 0", x.of(-1, 0), Edge.BEYOND);
    Edge.refuses("a 9th", Edge::full, y -> y.part(0, 0), Edge.FULL);
  }

  private static void kindsRange() {
    Edge.says("KINDS: 0 PART, 1 SAILOR under PART, 2 PET .. 3 GHOST .. 4 ADMIRAL under SAILOR, 5 YOUNGEST under PET");
    int[][] over = {{0}, {0, 1}, {0, 2}, {0, 3}, {0, 1, 4}, {0, 2, 5}};
    for (int kind : KINDS) {
      OthersShare x = Edge.with(kind, 0);
      is("its KIND", x.of(0, 0), kind);
      int set = 0;
      for (int as = 0; as < 6; as++) {
        set |= x.as(0, as) == Edge.KIND ? 0 : 1 << as;
      }
      int due = 0;
      for (int as : over[kind]) {
        due |= 1 << as;
      }
      is("all that a " + kind + " is", set, due);
    }
    Edge.refuses("a kind below", Edge::rich, y -> y.part(-1, 0), Edge.BEYOND);
    Edge.refuses("a kind above", Edge::rich, y -> y.part(6, 0), Edge.BEYOND);
  }

  /** A number of a part: what it is at first, the least and the greatest, and one more each way. */
  private static void range(int what, int first, int low, int high) {
    OthersShare x = Edge.with(Edge.PART, 0);
    is("at first, " + what, x.of(0, what), first);
    is("the least, " + what, x.set(0, what, low), first);
    is("is it, " + what, x.of(0, what), low);
    is("the greatest, " + what, x.set(0, what, high), low);
    is("is it, " + what, x.of(0, what), high);
    Edge.refuses("less, " + what, Edge::rich, y -> y.set(1, what, low - 1), Edge.BEYOND);
    Edge.refuses("more, " + what, Edge::rich, y -> y.set(1, what, high + 1), Edge.BEYOND);
  }

  private static void lengthRange() {
    Edge.says("LONG (1 to 99: points it needs; 10 at first)");
    range(1, 10, 1, 99);
  }

  private static void playedRange() {
    Edge.says("PLAYED (points; 0 at first)");
    range(2, 0, 0, 9999);
  }

  private static void dueRange() {
    Edge.says("DUE (a day, 0 to 9999)");
    range(3, 0, 0, 9999);
    OthersShare x = Edge.with(Edge.PART, 9999);
    is("a new one's", x.of(0, 3), 9999);
  }

  private static void putOffRange() {
    Edge.says("PUT OFF (days for which it doesn't call; 0 to 99; 0 at first)");
    range(4, 0, 0, 99);
    for (int off : new int[] {0, 1, 2, 99}) {
      OthersShare x = Edge.with(Edge.GHOST, 0);
      x.set(0, 4, off);
      is("is played on this DAY, put off " + off, x.now(4), off == 0 ? 0 : -1);
      is("is DONE, put off " + off, x.done(0), off + 1);
    }
  }

  // ---- what a part does

  private static void done() {
    Edge.says("DONE: PLAYED is what it NEEDS, or more.");
    for (int kind : KINDS) {
      OthersShare x = Edge.with(kind, 0);
      int needs = x.of(0, 5);
      for (int points = needs - 1; points <= needs + 1; points++) {
        x.set(0, 2, points);
        is("DONE with " + points + " of " + needs, x.of(0, 9), points >= needs ? 1 : 0);
        is("DONE, the set", x.now(5), points >= needs ? 1 : 0);
      }
      x.set(0, 2, 9999);
      is("DONE with 9999", x.of(0, 9), 1);
      x.set(0, 2, 0);
      is("DONE with 0", x.of(0, 9), 0);
    }
  }

  private static void needs() {
    Edge.says("NEEDS (points): PART: LONG. SAILOR: twice LONG. PET: as PART. GHOST: 1. ADMIRAL .. YOUNGEST ..");
    int[] length = {1, 2, 98, 99};
    int[][] needs = {{1, 2, 98, 99}, {2, 4, 196, 198}, {1, 2, 98, 99}, {1, 1, 1, 1}, {7, 9, 201, 203},
        {1, 3, 147, 148}};
    for (int kind : KINDS) {
      OthersShare x = Edge.with(kind, 0);
      for (int i = 0; i < length.length; i++) {
        x.set(0, 1, length[i]);
        is("NEEDS of " + kind + ", long " + length[i], x.of(0, 5), needs[kind][i]);
        is("left of " + kind + ", long " + length[i], x.left(0), needs[kind][i]);
      }
    }
  }

  private static void gives() {
    Edge.says("GIVES (points in a day on which it is played, WEARY w, HOLIDAY or not)");
    int[] weary = {0, 29, 30, 59, 60, 80, 81, 89, 90, 99};
    int[][] school = {{4, 4, 3, 3, 2, 2, 2, 2, 1, 1}, {4, 4, 3, 3, 2, 2, 2, 2, 1, 1}, {5, 5, 4, 4, 3, 3, 3, 3, 2, 2},
        {1, 1, 1, 1, 1, 1, 1, 1, 1, 1}, {3, 3, 2, 2, 1, 1, 1, 1, 0, 0}, {5, 5, 4, 4, 3, 3, 0, 0, 0, 0}};
    int[] onHoliday = {0, 3, 0, 0, 3, 0};
    for (int kind : KINDS) {
      for (int i = 0; i < weary.length; i++) {
        int due = school[kind][i];
        is("GIVES of " + kind + ", weary " + weary[i], one(kind, weary[i], false).of(0, 6), due);
        is("and on a HOLIDAY", one(kind, weary[i], true).of(0, 6), due + onHoliday[kind]);
      }
    }
  }

  private static void givesLeast() {
    Edge.says("GIVES: .. (0 at least.)");
    for (int weary = 86; weary <= 99; weary++) {
      is("GIVES of an ADMIRAL, weary " + weary, one(Edge.ADMIRAL, weary, false).of(0, 6), weary < 90 ? 1 : 0);
    }
  }

  private static void givesOfTheYoungest() {
    Edge.says("GIVES: .. YOUNGEST: as PET, but 0, if w is above 80.");
    is("at 80", one(Edge.YOUNGEST, 80, false).of(0, 6), 3);
    is("at 81", one(Edge.YOUNGEST, 81, false).of(0, 6), 0);
    OthersShare x = one(Edge.YOUNGEST, 81, false);
    is("it is played all the same", x.played(0), 1);
    is("points of a day", x.on(0, 1, 0), 0);
    is("and of another, less weary by then", x.on(0, 2, 0), 3);
  }

  private static void calls() {
    Edge.says("CALLS (how loud, d being DAY less DUE): PART .. SAILOR .. PET .. GHOST .. ADMIRAL .. (0 at least.)");
    int[] silent = {50, 60, 45, 0, 60, 45};
    for (int kind : KINDS) {
      OthersShare x = Edge.with(kind, 0);
      for (int due : new int[] {0, 1, 43, 44, 45, 46, 48, 49, 50, 51, 52, 58, 59, 60, 61, 62, 110, 9998, 9999}) {
        x.set(0, 3, due);
        int loud = kind == Edge.GHOST ? 60 : Math.max(0, silent[kind] - due);
        is("CALLS of " + kind + ", DUE " + due, x.of(0, 7), loud);
        is("is played", x.now(4), loud > 0 ? 0 : -1);
      }
    }
    int[] loudest = {10049, 10148, 10044, 60, 10148, 10044};
    OthersShare old = Edge.at(9999);
    old.part(Edge.PART, 0);
    old.set(0, 1, 99);
    for (int kind : KINDS) {
      old.turn(0, kind);
      is("CALLS of " + kind + " on DAY 9999, DUE 0, long 99", old.of(0, 7), loudest[kind]);
    }
  }

  private static void callsOfAnAdmiral() {
    Edge.says("CALLS: .. ADMIRAL: as SAILOR, but 0, if w is above 50.");
    for (int weary : new int[] {0, 49, 50, 51, 52, 99}) {
      OthersShare x = one(Edge.ADMIRAL, weary, false);
      is("CALLS, weary " + weary, x.of(0, 7), weary > 50 ? 0 : 60);
      is("is played, weary " + weary, x.now(4), weary > 50 ? -1 : 0);
    }
  }

  private static void callsOfTheYoungest() {
    Edge.says("CALLS: .. YOUNGEST: as PET, but 1, if another part isn't DONE (PUT OFF or not).");
    OthersShare x = Edge.with(Edge.YOUNGEST, 0);
    is("alone", x.of(0, 7), 45);
    x.part(Edge.PART, 9999);
    is("with another", x.of(0, 7), 1);
    x.set(1, 4, 99);
    is("with another, put off", x.of(0, 7), 1);
    x.set(1, 2, 9);
    is("with another, not quite DONE", x.of(0, 7), 1);
    x.set(1, 2, 10);
    is("with another that is DONE", x.of(0, 7), 45);
    x.part(Edge.YOUNGEST, 0);
    is("of two, the one", x.of(0, 7), 1);
    is("of two, the other", x.of(2, 7), 1);
    is("of two, the least", x.now(4), 0);
    x.set(2, 2, 15);
    is("with another YOUNGEST that is DONE", x.of(0, 7), 45);
    is("that one, DONE itself, with one that isn't", x.of(2, 7), 1);
    x.set(0, 3, 9999);
    is("as silent as a PET, alone", x.of(0, 7), 0);
    x.set(2, 2, 14);
    is("but not with another", x.of(0, 7), 1);
  }

  private static void tires() {
    Edge.says("TIRES (how much more WEARY in a day on which it is played)");
    int[] tires = {6, 10, -3, 0, 10, -1};
    for (int kind : KINDS) {
      is("TIRES of " + kind, one(kind, 50, false).of(0, 8), 100 + tires[kind]);
      is("WEARY behind a day of " + kind, wearyBehind(one(kind, 50, false), 50), 50 + tires[kind]);
    }
  }

  // ---- a day goes

  private static void whoMayPlay() {
    Edge.says("A DAY goes: of PARTS that aren't DONE nor PUT OFF (PUT OFF 0)");
    OthersShare x = Edge.with(Edge.SAILOR, 0, Edge.PART, 0);
    is("the louder", x.now(4), 0);
    x.set(0, 2, 19);
    is("the louder, not quite DONE", x.now(4), 0);
    x.set(0, 2, 20);
    is("the louder, DONE", x.now(4), 1);
    x.set(0, 2, 0);
    x.set(0, 4, 1);
    is("the louder, PUT OFF 1", x.now(4), 1);
    x.days(1);
    is("points", x.of(0, 2), 0);
    is("points", x.of(1, 2), 4);
    is("the louder, PUT OFF 0", x.now(4), 0);
  }

  private static void theLoudest() {
    Edge.says("the one that CALLS loudest (of several the least)");
    OthersShare x = Edge.with(Edge.PART, 1, Edge.PART, 0, Edge.PART, 0, Edge.PET, 0);
    is("50 is louder than 49", x.now(4), 1);
    x.set(1, 3, 1);
    is("50 behind 49", x.now(4), 2);
    x.set(2, 3, 1);
    is("of three that call 49 the least", x.now(4), 0);
    OthersShare y = Edge.with(Edge.PET, 0, Edge.PART, 5);
    is("a PET and a PART that call 45", y.now(4), 0);
    OthersShare z = new OthersShare();
    for (int part = 0; part < 8; part++) {
      z.part(Edge.PART, 9);
    }
    z.set(7, 3, 8);
    is("the last", z.now(4), 7);
    z.set(7, 3, 9);
    is("of eight the least", z.now(4), 0);
  }

  private static void aboveZero() {
    Edge.says("if it CALLS above 0, is played");
    for (int due = 48; due <= 51; due++) {
      OthersShare x = Edge.with(Edge.PART, due);
      is("played, DUE " + due, x.now(4), due < 50 ? 0 : -1);
      x.weary(50);
      x.days(1);
      is("points, DUE " + due, x.of(0, 2), due < 50 ? 3 : 0);
      is("WEARY, DUE " + due, x.now(2), due < 50 ? 56 : 40);
    }
  }

  /** A part so near to 9999 is DONE, unless it is longer than it may be; that is put from within. */
  private static void playedHeld() throws ReflectiveOperationException {
    Edge.says("PLAYED is what it GIVES more (9999 at most)");
    for (int points = 9994; points <= 9999; points++) {
      OthersShare x = Edge.with(Edge.SAILOR, 0);
      ((int[]) field(home(x), "lengths").get(home(x)))[0] = 6000;
      x.set(0, 2, points);
      is("ON a DAY from " + points, x.on(0, 1, 0), Math.min(9999, points + 4));
      x.days(1);
      is("behind a DAY from " + points, x.of(0, 2), Math.min(9999, points + 4));
    }
    OthersShare y = Edge.with(Edge.SAILOR, 0);
    y.set(0, 1, 99);
    y.set(0, 2, 197);
    y.days(1);
    is("as far as any comes", y.of(0, 2), 201);
  }

  private static void wearyHeld() {
    Edge.says("WEARY what it TIRES more (0 to 99 held)");
    int[] from = {92, 93, 94, 99};
    int[] to = {98, 99, 99, 99};
    for (int i = 0; i < from.length; i++) {
      is("behind a PART at " + from[i], wearyBehind(one(Edge.PART, 0, false), from[i]), to[i]);
    }
    is("behind a SAILOR at 88", wearyBehind(one(Edge.SAILOR, 0, false), 88), 98);
    is("behind a SAILOR at 89", wearyBehind(one(Edge.SAILOR, 0, false), 89), 99);
    is("behind a SAILOR at 90", wearyBehind(one(Edge.SAILOR, 0, false), 90), 99);
    int[] pet = {0, 0, 0, 0, 1};
    for (int weary = 0; weary < pet.length; weary++) {
      is("behind a PET at " + weary, wearyBehind(one(Edge.PET, 0, false), weary), pet[weary]);
    }
    is("behind a YOUNGEST at 0", wearyBehind(one(Edge.YOUNGEST, 0, false), 0), 0);
    is("behind a YOUNGEST at 1", wearyBehind(one(Edge.YOUNGEST, 0, false), 1), 0);
    is("behind a YOUNGEST at 2", wearyBehind(one(Edge.YOUNGEST, 0, false), 2), 1);
    is("behind a GHOST at 0", wearyBehind(one(Edge.GHOST, 0, false), 0), 0);
    is("behind a GHOST at 99", wearyBehind(one(Edge.GHOST, 0, false), 99), 99);
  }

  private static void doneAndLate() {
    Edge.says("if it is DONE then, and DAY is above DUE: LATE is 1 more");
    OthersShare x = Edge.with(Edge.PART, 0);
    x.days(1);
    is("DUE, and not DONE", x.now(3), 0);
    x.days(1);
    is("played behind DUE, and not DONE", x.now(3), 0);
    x.days(1);
    is("DONE behind DUE", x.now(3), 1);
    x.days(1);
    is("DONE, and not played", x.now(3), 1);
    OthersShare y = Edge.with(Edge.GHOST, 0);
    y.days(1);
    is("DONE on the DAY it is DUE", y.now(3), 0);
    y.set(0, 2, 0);
    y.set(0, 3, 1);
    y.days(1);
    is("DONE on that DAY again", y.now(3), 0);
    y.set(0, 2, 0);
    y.days(1);
    is("DONE a DAY behind", y.now(3), 1);
    OthersShare z = Edge.with(Edge.PART, 0);
    z.set(0, 4, 9);
    z.days(2);
    z.set(0, 2, 10);
    z.days(2);
    is("DONE, but not by a DAY", z.now(3), 0);
  }

  private static void nonePlayed() {
    Edge.says("If none is played: WEARY is 10 less (0 at least).");
    int[] from = {0, 1, 9, 10, 11, 99};
    int[] to = {0, 0, 0, 0, 1, 89};
    for (int i = 0; i < from.length; i++) {
      is("of none, weary " + from[i], wearyBehind(Edge.school(new OthersShare()), from[i]), to[i]);
      OthersShare x = one(Edge.PART, 0, false);
      x.set(0, 4, 1);
      is("all PUT OFF, weary " + from[i], wearyBehind(x, from[i]), to[i]);
      x.set(0, 2, 10);
      is("all DONE, weary " + from[i], wearyBehind(x, from[i]), to[i]);
    }
  }

  private static void holidayRest() {
    Edge.says("Behind that on a HOLIDAY WEARY is 4 less (0 at least).");
    int[] from = {0, 3, 4, 5, 99};
    int[] to = {0, 0, 0, 1, 95};
    for (int i = 0; i < from.length; i++) {
      is("behind a GHOST, weary " + from[i], wearyBehind(one(Edge.GHOST, 0, true), from[i]), to[i]);
    }
    is("behind a PART that is held to 99", wearyBehind(one(Edge.PART, 0, true), 99), 95);
    is("behind a PART at 93", wearyBehind(one(Edge.PART, 0, true), 93), 95);
    is("behind a PET that is held to 0", wearyBehind(one(Edge.PET, 0, true), 2), 0);
    is("behind none, 13", wearyBehind(Edge.vacation(new OthersShare()), 13), 0);
    is("behind none, 14", wearyBehind(Edge.vacation(new OthersShare()), 14), 0);
    is("behind none, 15", wearyBehind(Edge.vacation(new OthersShare()), 15), 1);
    OthersShare x = Edge.at(6);
    is("the DAY that goes counts, not the one that comes", wearyBehind(x, 50), 36);
    is("which is none", wearyBehind(x, 50), 40);
  }

  private static void putOffLess() {
    Edge.says("PUT OFF of each is 1 less (0 at least).");
    OthersShare x = Edge.with(Edge.GHOST, 0, Edge.PART, 0, Edge.PART, 0, Edge.PART, 0, Edge.GHOST, 0);
    int[] off = {0, 1, 2, 99, 3};
    for (int part = 0; part < 5; part++) {
      x.set(part, 4, off[part]);
    }
    x.set(4, 2, 1);
    for (int day = 1; day <= 3; day++) {
      x.days(1);
      for (int part = 0; part < 5; part++) {
        is("of " + off[part] + " behind " + day, x.of(part, 4), Math.max(0, off[part] - day));
      }
    }
    Edge.pass(x, 95);
    is("of 99 behind 98", x.of(3, 4), 1);
    x.days(1);
    is("of 99 behind 99", x.of(3, 4), 0);
    x.days(1);
    is("of 99 behind 100", x.of(3, 4), 0);
  }

  private static void dayMore() {
    Edge.says("DAY is 1 more.");
    OthersShare x = Edge.with(Edge.PART, 0);
    for (int day = 0; day < 9; day++) {
      is("DAY", x.now(0), day);
      x.days(1);
    }
  }

  // ---- the text

  /** A text that comes to what there is: as a twin to which the calls are made, its tape empty. */
  private static void comes(OthersShare x, String text, int items, Edge.Call alike) {
    OthersShare twin = new OthersShare();
    alike.of(twin);
    Edge.type(x, text);
    is("nursery() of \"" + text + "\"", x.nursery(), items);
    is("status(-1)", x.status(-1), 0);
    Edge.same("behind \"" + text + "\"", x, twin);
  }

  /** A text with a fault: nothing has changed but that the tape is empty, and it is no finding. */
  private static void faults(String text, int place) {
    OthersShare x = Edge.rich();
    OthersShare twin = Edge.rich();
    x.wipe();
    twin.wipe();
    Edge.type(x, text);
    is("nursery() of \"" + text + "\"", x.nursery(), -1 - place);
    is("status(-1)", x.status(-1), twin.status(-1));
    Edge.same("behind \"" + text + "\"", x, twin);
  }

  private static long part(OthersShare x, int kind, int due, int length, int off) {
    int part = x.part(kind, due);
    x.set(part, 1, length);
    return x.set(part, 4, off);
  }

  private static void tapeRange() {
    Edge.says("THE TAPE (bytes, at most 120)");
    OthersShare x = new OthersShare();
    for (int n = 1; n <= 119; n++) {
      is("bytes", x.feed(' ', 1), n);
    }
    is("two more than 119", x.feed(0x2020, 2), Edge.FULL);
    is("bytes", x.count(1), 119);
    is("the 120th", x.feed('x', 1), 120);
    is("a 121st", x.feed(' ', 1), Edge.FULL);
    is("bytes", x.count(1), 120);
    is("a fault at the last", x.nursery(), -1 - 119);
    faults(" ".repeat(120), 120);
    comes(new OthersShare(), " ".repeat(113) + "weary 9", 1, y -> y.weary(9));
    comes(new OthersShare(), "weary 00" + "0".repeat(111) + "9", 1, y -> y.weary(9));
    comes(new OthersShare(), "free1;".repeat(19) + "free00", 20, y -> y.free(0, 1) + y.free(1, 1));
  }

  private static void tokensAsLongAsCanBe() {
    Edge.says("TOKENS, each as long as can be");
    comes(new OthersShare(), "pet1long2later3;free0;school5;weary7", 4,
        y -> part(y, Edge.PET, 1, 2, 3) + y.free(0, 1) + y.free(5, 0) + y.weary(7));
    comes(new OthersShare(), "pet 12long34later56", 1, y -> part(y, Edge.PET, 12, 34, 56));
    faults("petlong 1", 0);
    faults("pet 1longlater 2", 5);
    faults("pet 1 2", 6);
    faults("weary 1 0", 8);
    faults("p et 1", 0);
    faults("pets 1", 0);
  }

  private static void wordRange() {
    Edge.says("WORDS (letters a to z)");
    for (char c : new char[] {'`', '{', 'A', 'Z', '@', '[', (char) 0xe1, (char) 0xfa}) {
      faults("pet" + c + " 1", 3);
      faults(c + "pet 1", 0);
    }
    for (char c : new char[] {'a', 'z'}) {
      faults("pet" + c + " 1", 0);
      faults("pet 1" + c, 5);
    }
    faults("Pet 1", 0);
    faults("pet 1 loNg 2", 6);
  }

  private static void numberRange() {
    Edge.says("NUMBERS (digits, 9999 at most)");
    comes(new OthersShare(), "pet 9998", 1, y -> y.part(Edge.PET, 9998));
    comes(new OthersShare(), "pet 9999", 1, y -> y.part(Edge.PET, 9999));
    comes(new OthersShare(), "pet 0", 1, y -> y.part(Edge.PET, 0));
    comes(new OthersShare(), "pet 0123", 1, y -> y.part(Edge.PET, 123));
    comes(new OthersShare(), "pet 5678", 1, y -> y.part(Edge.PET, 5678));
    faults("pet 10000", 4);
    faults("pet 99999", 4);
    faults("pet 65537", 4);
    faults("pet 2147483648", 4);
    faults("pet 4294967296", 4);
    faults("pet 4294967297", 4);
    faults("pet 18446744073709551617", 4);
    faults("pet " + "9".repeat(116), 4);
    for (char c : new char[] {'/', ':', '-', '+', '.', (char) 0xb0}) {
      faults("pet " + c + "1", 4);
      faults("pet 1" + c, 5);
    }
  }

  private static void signAndBlanks() {
    Edge.says("SIGN ; ; blanks may stand between");
    comes(new OthersShare(), "  weary  4  ;  free   0  ", 2, y -> y.weary(4) + y.free(0, 1));
    comes(new OthersShare(), "weary 4;free 0", 2, y -> y.weary(4) + y.free(0, 1));
    faults("weary 4:free 0", 7);
    faults("weary 4<free 0", 7);
    faults("weary 4,free 0", 7);
    for (char c : new char[] {0, 9, 10, 13, 31, 33, 127, 160}) {
      faults("weary" + c + "4", 5);
      faults(c + "weary 4", 0);
      faults("weary 4" + c, 7);
    }
  }

  private static void anotherWord() {
    Edge.says("FAULT: .. another WORD");
    String[] texts = {"part 1", "sailor 1", "pet 1", "ghost 1", "admiral 1", "youngest 1", "free 1", "school 1", "weary 1"};
    for (String text : texts) {
      otherLetters("", text);
    }
    otherLetters("pet 1 ", "long 1");
    otherLetters("pet 1 ", "later 1");
    otherLetters("pet 1 long 2 ", "later 1");
  }

  /** Each letter of the word for another one, and the place of the fault is the word's. */
  private static void otherLetters(String ahead, String text) {
    for (int i = 0; text.charAt(i) != ' '; i++) {
      String other = text.substring(0, i) + (text.charAt(i) == 'x' ? 'y' : 'x') + text.substring(i + 1);
      OthersShare x = new OthersShare();
      Edge.type(x, ahead + other);
      is("nursery() of \"" + ahead + other + "\"", x.nursery(), -1 - ahead.length());
      is("count(0)", x.count(0), 0);
    }
  }

  private static void textOfItems() {
    Edge.says("TEXT: ITEM { ; ITEM }.");
    comes(new OthersShare(), "weary 4", 1, y -> y.weary(4));
    comes(new OthersShare(), "weary 4;weary 5;weary 6", 3, y -> y.weary(6));
    faults("", 0);
    faults(";", 0);
    faults(";weary 4", 0);
    faults("weary 4;;weary 5", 8);
    faults("weary 4;", 8);
    faults("weary 4 weary 5", 8);
  }

  private static void itemOfPart() {
    Edge.says("the name of a KIND (part sailor pet ghost admiral youngest), a NUMBER (DUE, 0 to 9999)");
    String[] names = {"part", "sailor", "pet", "ghost", "admiral", "youngest"};
    for (int kind : KINDS) {
      comes(new OthersShare(), names[kind] + " 0", 1, y -> y.part(kind, 0));
      comes(new OthersShare(), names[kind] + " 9999", 1, y -> y.part(kind, 9999));
      faults(names[kind] + " 10000", names[kind].length() + 1);
      faults(names[kind] + "x 1", 0);
      faults(names[kind].substring(1) + " 1", 0);
      faults(names[kind].substring(0, names[kind].length() - 1) + " 1", 0);
    }
  }

  private static void itemLong() {
    Edge.says("perhaps long and a NUMBER (1 to 99)");
    comes(new OthersShare(), "pet 1 long 1", 1, y -> part(y, Edge.PET, 1, 1, 0));
    comes(new OthersShare(), "pet 1 long 99", 1, y -> part(y, Edge.PET, 1, 99, 0));
    comes(new OthersShare(), "pet 1", 1, y -> part(y, Edge.PET, 1, 10, 0));
    faults("pet 1 long 0", 11);
    faults("pet 1 long 100", 11);
    faults("pet 1 long", 10);
    faults("pet 1 long later 2", 11);
    faults("pet 1 long 2 long 2", 13);
    faults("pet 1 lon 2", 6);
    faults("long 2", 0);
    faults("weary 1 long 2", 8);
  }

  private static void itemLater() {
    Edge.says("perhaps later and a NUMBER (PUT OFF, 0 to 99): one more");
    comes(new OthersShare(), "pet 1 later 0", 1, y -> part(y, Edge.PET, 1, 10, 0));
    comes(new OthersShare(), "pet 1 later 99", 1, y -> part(y, Edge.PET, 1, 10, 99));
    comes(new OthersShare(), "pet 1 long 5 later 6", 1, y -> part(y, Edge.PET, 1, 5, 6));
    comes(Edge.with(Edge.GHOST, 4), "pet 1 later 1;pet 2", 2,
        y -> y.part(Edge.GHOST, 4) + part(y, Edge.PET, 1, 10, 1) + y.part(Edge.PET, 2));
    faults("pet 1 later 100", 12);
    faults("pet 1 later", 11);
    faults("pet 1 later ;", 12);
    faults("pet 1 later 6 long 5", 14);
    faults("pet 1 later 6 later 6", 14);
    faults("later 6", 0);
    faults("free 1 later 6", 7);
  }

  private static void itemFree() {
    Edge.says("free or school, a NUMBER (0 to 6): that day of the week is a HOLIDAY, or none");
    comes(new OthersShare(), "free 0", 1, y -> y.free(0, 1));
    comes(new OthersShare(), "free 6", 1, y -> y.count(0));
    comes(new OthersShare(), "school 0", 1, y -> y.count(0));
    comes(new OthersShare(), "school 6", 1, y -> y.free(6, 0));
    comes(new OthersShare(), "free 4;school 4;school 5;free 5", 4, y -> y.count(0));
    faults("free 7", 5);
    faults("school 7", 7);
    faults("free", 4);
    faults("school", 6);
    faults("free school", 5);
    faults("fre 1", 0);
    faults("schools 1", 0);
  }

  private static void itemWeary() {
    Edge.says("weary and a NUMBER (0 to 99).");
    comes(new OthersShare(), "weary 0", 1, y -> y.weary(0));
    comes(new OthersShare(), "weary 99", 1, y -> y.weary(99));
    comes(new OthersShare(), "weary 99;weary 0", 2, y -> y.weary(0));
    faults("weary 100", 6);
    faults("weary", 5);
    faults("wear 1", 0);
    faults("wearyy 1", 0);
  }

  private static void faultPlaces() {
    Edge.says("FAULT: the place (from 0) of the first byte of the first TOKEN that can't stand there");
    faults("  x", 2);
    faults("3", 0);
    faults("weary 5 ; pet pet", 14);
    faults("weary 100; pet 10000", 6);
    faults("weary 1; pet 10000; ?", 13);
    faults("weary ? 1 pet", 6);
    faults("? weary 100", 0);
  }

  private static void faultOfTheEnd() {
    Edge.says("FAULT: .. or how many bytes there are if it ends too early.");
    faults("", 0);
    faults(" ", 1);
    faults("pet", 3);
    faults("pet  ", 5);
    faults("pet 1;", 6);
    faults("pet 1 ;  ", 9);
    faults("pet 1 long 2 later ", 19);
    faults("pet 1;" + " ".repeat(114), 120);
  }

  private static void faultOfTheNinth() {
    Edge.says("FAULT: .. the name of a KIND for a 9th: its own");
    comes(new OthersShare(), "pet1;".repeat(7) + "pet1", 8, OthersShareTerms::eightPets);
    faults("pet1;pet1;pet1", 10);
    OthersShare x = new OthersShare();
    Edge.type(x, "pet1;".repeat(8) + "pet1");
    is("the 9th of one text", x.nursery(), -1 - 40);
    is("none has come", x.count(0), 0);
    Edge.type(x, "pet1;".repeat(8) + " youngest");
    is("the 9th, its own place, not the end's", x.nursery(), -1 - 41);
    Edge.type(x, "pet1;".repeat(7) + "weary 100;pet 1");
    is("a fault ahead of it", x.nursery(), -1 - 41);
    eightPets(x);
    Edge.type(x, "weary 4;ghost 1");
    is("the 9th behind eight", x.nursery(), -1 - 8);
    is("nothing has changed", x.now(2), 0);
    Edge.type(x, "weary 4;free 1");
    is("what isn't a part comes still", x.nursery(), 2);
  }

  private static long eightPets(OthersShare y) {
    for (int part = 0; part < 8; part++) {
      y.part(Edge.PET, 1);
    }
    return 8;
  }

  // ---- sections 2 and 3

  private static void onDays() {
    Edge.says("ON: n DAYS go on with all as it is; nothing changes.");
    Edge.asks("on(2, 400, 1)", Edge::rich, x -> x.on(2, 400, 1), 1);
    Edge.asks("then(400, 2)", Edge::rich, x -> x.then(400, 2), 6);
    OthersShare x = Edge.rich();
    OthersShare y = Edge.rich();
    for (int n = 0; n <= 9; n++) {
      for (int part = 0; part < 6; part++) {
        is("PLAYED of " + part + " ON " + n, y.on(part, n, 0), x.of(part, 2));
      }
      is("WEARY ON " + n, y.then(n, 0), x.now(2));
      is("LATE ON " + n, y.then(n, 1), x.now(3));
      is("how many are DONE ON " + n, y.then(n, 2), Integer.bitCount(x.now(5)));
      x.days(1);
    }
    OthersShare old = Edge.at(9999);
    old.part(Edge.PART, 9999);
    is("ON a DAY above 9999", old.on(0, 1, 0), 4);
    is("ON more", old.on(0, 2, 0), 8);
    is("DONE ON DAYS above 9999", old.done(0), 3);
    is("and late", old.then(3, 1), 1);
    is("DAY", old.now(0), 9999);
  }

  private static void behindhand() {
    Edge.says("BEHINDHAND: a part that isn't DONE, DAY being above DUE.");
    OthersShare x = Edge.with(Edge.PART, 0, Edge.PART, 1, Edge.PART, 2, Edge.PART, 9999);
    for (int part = 0; part < 4; part++) {
      x.set(part, 4, 9);
    }
    int[] due = {0, 1, 3, 7, 7};
    for (int day = 0; day < due.length; day++) {
      is("on DAY " + day, x.now(6), due[day]);
      x.days(1);
    }
    x.set(0, 2, 9);
    is("not quite DONE", x.now(6), 7);
    x.set(0, 2, 10);
    is("DONE", x.now(6), 6);
  }

  private static void sheetRange() {
    Edge.says("SHEETS 0 to 3 are rows of at most 40 numbers of 8, 16 or 64 bits, or MISSING (at first).");
    OthersShare x = new OthersShare();
    int[] bits = {8, 16, 64, 8};
    for (int s = 0; s < 4; s++) {
      is("at first", x.write(s, 0, 1), Edge.MISSING);
      is("of 40", x.sheet(s, bits[s], 40), 40);
      is("the first", x.write(s, 0, 1), 0);
      is("the last", x.write(s, 39, 1), 0);
      is("one more", x.write(s, 40, 1), Edge.BEYOND);
      is("one less", x.write(s, -1, 1), Edge.BEYOND);
    }
    is("sheet -1", x.write(-1, 0, 1), Edge.BEYOND);
    is("sheet 4", x.write(4, 0, 1), Edge.BEYOND);
    Edge.refuses("of 41", Edge::rich, y -> y.sheet(1, 8, 41), Edge.BEYOND);
    for (int odd : new int[] {-8, 1, 4, 7, 9, 15, 17, 24, 32, 63, 65, 128}) {
      Edge.refuses("of " + odd + " bits", Edge::rich, y -> y.sheet(1, odd, 4), Edge.BEYOND);
    }
  }

  private static void ranges() {
    calls512();
    findings();
    quotients();
    sets();
    dayRange();
    wearyRange();
    freeRange();
    dayOfTheWeek();
    lateBehindDue();
    partsRange();
    kindsRange();
    lengthRange();
    playedRange();
    dueRange();
    putOffRange();
  }

  private static void daysGo() {
    done();
    needs();
    gives();
    givesLeast();
    givesOfTheYoungest();
    calls();
    callsOfAnAdmiral();
    callsOfTheYoungest();
    tires();
    whoMayPlay();
    theLoudest();
    aboveZero();
    wearyHeld();
    doneAndLate();
    nonePlayed();
    holidayRest();
    putOffLess();
    dayMore();
  }

  private static void texts() {
    tapeRange();
    tokensAsLongAsCanBe();
    wordRange();
    numberRange();
    signAndBlanks();
    anotherWord();
    textOfItems();
    itemOfPart();
    itemLong();
    itemLater();
    itemFree();
    itemWeary();
    faultPlaces();
    faultOfTheEnd();
    faultOfTheNinth();
  }

  public static void main(String[] args) throws ReflectiveOperationException {
    ranges();
    lateHeld();
    daysGo();
    playedHeld();
    texts();
    onDays();
    behindhand();
    sheetRange();
    Edge.end();
  }
}
