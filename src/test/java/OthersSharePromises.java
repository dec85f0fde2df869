/** Each promise of the document: ordinary inputs, its edges, and each finding in its order. */
public final class OthersSharePromises {
  private static final int BEYOND = -1000000001;
  private static final int FULL = -1000000002;
  private static final int KIND = -1000000003;
  private static final int NONE = -1000000004;
  private static final int STATE = -1000000005;
  private static final int MISSING = -1000000006;
  private static final int SIZE = -1000000007;

  private static final int PART = 0;
  private static final int SAILOR = 1;
  private static final int PET = 2;
  private static final int GHOST = 3;
  private static final int ADMIRAL = 4;
  private static final int YOUNGEST = 5;

  private static int wrong = 0;
  private static int right = 0;

  private static void is(String what, long got, long want) {
    if (got == want) {
      right++;
    } else {
      wrong++;
      System.out.println(what + " answered " + got + ", due is " + want);
    }
  }

  private static OthersShare with(int... kindsAndDues) {
    OthersShare x = new OthersShare();
    for (int i = 0; i < kindsAndDues.length; i += 2) {
      is("with: part", x.part(kindsAndDues[i], kindsAndDues[i + 1]), i / 2);
    }
    return x;
  }

  private static void type(OthersShare x, String text) {
    for (int i = 0; i < text.length(); i += 4) {
      int n = Math.min(4, text.length() - i);
      int bytes = 0;
      for (int k = 0; k < n; k++) {
        bytes = bytes << 8 | text.charAt(i + k);
      }
      x.feed(bytes, n);
    }
  }

  private static void told(OthersShare x, String text, int want) {
    type(x, text);
    is("nursery of \"" + text + "\"", x.nursery(), want);
    is("the tape behind \"" + text + "\"", x.count(1), 0);
  }

  private static void sheetIs(OthersShare x, int s, long... numbers) {
    for (int i = 0; i < numbers.length; i++) {
      long was = x.write(s, i, 0);
      is("number " + i + " of sheet " + s, was, numbers[i]);
      x.write(s, i, was);
    }
    is("no number behind on sheet " + s, x.write(s, numbers.length, 0), BEYOND);
  }

  private static void write(OthersShare x, int s, long... numbers) {
    for (int i = 0; i < numbers.length; i++) {
      x.write(s, i, numbers[i]);
    }
  }

  private static void pass(OthersShare x, int days) {
    for (int gone = 0; gone < days; gone += 100) {
      x.days(Math.min(100, days - gone));
    }
  }

  private static void promise1New() {
    OthersShare x = new OthersShare();
    is("1 parts", x.count(0), 0);
    is("1 tape", x.count(1), 0);
    is("1 holidays", x.count(2), 2);
    is("1 played", x.count(3), 0);
    is("1 no image", x.undo(), NONE);
    is("1 nothing torn", x.tear(), 0);
    OthersShare y = new OthersShare();
    is("1 no findings", y.status(-1), 0);
    is("1 day", y.now(0), 0);
    is("1 weary", y.now(2), 0);
    is("1 late", y.now(3), 0);
    int[] free = {0, 0, 0, 0, 0, 1, 1};
    for (int place = 0; place < 7; place++) {
      is("1 free " + place, y.free(place, 0), free[place]);
    }
    for (int s = 0; s < 4; s++) {
      is("1 sheet " + s, y.write(s, 0, 1), MISSING);
    }
  }

  /** No call may throw, with as many parts as there can be and any numbers. */
  private static void anyNumbers() {
    int[] odd = {Integer.MIN_VALUE, -2, -1, 0, 1, 7, 8, 9, 40, 41, 9999, Integer.MAX_VALUE};
    for (int a : odd) {
      for (int b : odd) {
        OthersShare x = with(PART, 0, SAILOR, 0, PET, 0, GHOST, 0, ADMIRAL, 0, YOUNGEST, 0, GHOST, 1, PART, 1);
        for (int bits : new int[] {8, a}) {
          x.sheet(0, bits, 40);
          x.sheet(1, bits, b);
          x.sheet(a, bits, b);
        }
        x.sheet(2, 16, 9);
        calls(x, a, b);
        x.days(1);
        calls(x, b, a);
        is("none comes or goes", x.count(0), 8);
      }
    }
  }

  private static void calls(OthersShare x, int a, int b) {
    for (int what = -1; what < 11; what++) {
      x.now(what);
      x.of(a, what);
      x.set(a, what, b);
      x.count(what);
      x.status(what);
    }
    x.weary(a);
    x.free(a, b);
    x.part(a, b);
    x.turn(a, b);
    x.as(a, b);
    x.left(a);
    x.days(a);
    x.on(a, b, 0);
    x.then(a, 0);
    x.done(a);
    x.all();
    x.played(a);
    x.later(a);
    x.kind(a);
    x.bears(a);
    x.holiday();
    x.last();
    x.longest(a);
    x.due(a);
    x.feed(a, b);
    x.feed(a, 4);
    x.nursery();
    x.write(a, b, a);
    x.write(2, a, b);
    x.copy(a, b, 0, 0, 0);
    x.copy(2, a, 2, b, 1);
    x.copy(2, a, 2, a, b);
    x.lays(a);
    x.book(a);
    x.read(a, b);
    x.read(2, a);
    x.image();
    x.undo();
    x.tear();
    x.wipe();
  }

  private static void promise2Weary() {
    OthersShare x = new OthersShare();
    is("2 was", x.weary(99), 0);
    is("2 was", x.weary(7), 99);
    is("2 above", x.weary(100), BEYOND);
    is("2 below", x.weary(-1), BEYOND);
    is("2 stays", x.now(2), 7);
    is("2 zero", x.weary(0), 7);
    is("2 is zero", x.now(2), 0);
  }

  private static void promise3Free() {
    OthersShare x = new OthersShare();
    is("3 was", x.free(0, 1), 0);
    is("3 is", x.now(1), 1);
    is("3 again", x.free(0, 1), 1);
    is("3 last place", x.free(6, 0), 1);
    is("3 place", x.free(-1, 0), BEYOND);
    is("3 place", x.free(7, 0), BEYOND);
    is("3 v", x.free(1, 2), BEYOND);
    is("3 v", x.free(1, -1), BEYOND);
    is("3 holidays", x.count(2), 2);
  }

  private static void promise4Now() {
    OthersShare x = with(PART, 0, SAILOR, 1, GHOST, 9);
    is("4 day", x.now(0), 0);
    is("4 holiday", x.now(1), 0);
    is("4 played: the ghost calls 60, the sailor 59", x.now(4), 2);
    is("4 done", x.now(5), 0);
    is("4 behindhand: not on the day itself", x.now(6), 0);
    x.days(1);
    is("4 done", x.now(5), 4);
    is("4 played: the sailor calls 60, the part 51", x.now(4), 1);
    is("4 behindhand", x.now(6), 1);
    x.days(1);
    is("4 behindhand", x.now(6), 3);
    is("4 weary", x.now(2), 10);
    is("4 late", x.now(3), 0);
    x.days(3);
    is("4 holiday", x.now(1), 1);
    is("4 day", x.now(0), 5);
    x.set(0, 2, 10);
    is("4 done by set is not behindhand", x.now(6), 2);
    is("4 below", x.now(-1), BEYOND);
    is("4 above", x.now(7), BEYOND);
    is("4 none", new OthersShare().now(4), -1);
    OthersShare y = with(PART, 50, PART, 49, PART, 49);
    is("4 the least of several", y.now(4), 1);
    y.set(1, 4, 1);
    is("4 put off", y.now(4), 2);
    y.set(2, 4, 1);
    is("4 none that calls 0", y.now(4), -1);
    is("4 late of a late part", lateOfOne(), 1);
  }

  private static int lateOfOne() {
    OthersShare x = with(GHOST, 0, GHOST, 0);
    x.days(2);
    return x.now(3);
  }

  private static void promise5Part() {
    OthersShare x = new OthersShare();
    is("5 kind", x.part(6, 0), BEYOND);
    is("5 kind", x.part(-1, 0), BEYOND);
    is("5 due", x.part(0, -1), BEYOND);
    is("5 due", x.part(0, 10000), BEYOND);
    for (int part = 0; part < 8; part++) {
      is("5 number", x.part(part % 6, 9999 * (part % 2)), part);
    }
    is("5 its kind", x.of(4, 0), ADMIRAL);
    is("5 its length", x.of(4, 1), 10);
    is("5 its points", x.of(4, 2), 0);
    is("5 its due", x.of(5, 3), 9999);
    is("5 its rest", x.of(5, 4), 0);
    is("5 full", x.part(0, 0), FULL);
    is("5 beyond ahead of full", x.part(0, 10000), BEYOND);
    is("5 still 8", x.count(0), 8);
  }

  private static void promise6Of() {
    int[] kinds = {PART, SAILOR, PET, GHOST, ADMIRAL, YOUNGEST};
    int[] needs = {11, 22, 11, 1, 27, 16};
    int[] gives = {4, 4, 5, 1, 3, 5};
    int[] givesTired = {1, 1, 2, 1, 0, 0};
    int[] givesOnHoliday = {1, 4, 2, 1, 3, 0};
    int[] calls = {40, 51, 35, 60, 51, 35};
    int[] tires = {106, 110, 97, 100, 110, 99};
    for (int kind : kinds) {
      OthersShare x = with(kind, 10);
      x.set(0, 1, 11);
      is("6 kind", x.of(0, 0), kind);
      is("6 length", x.of(0, 1), 11);
      is("6 needs of " + kind, x.of(0, 5), needs[kind]);
      is("6 gives of " + kind, x.of(0, 6), gives[kind]);
      is("6 calls of " + kind, x.of(0, 7), calls[kind]);
      is("6 tires of " + kind, x.of(0, 8), tires[kind]);
      is("6 done of " + kind, x.of(0, 9), 0);
      x.weary(99);
      is("6 gives weary of " + kind, x.of(0, 6), givesTired[kind]);
      x.free(0, 1);
      is("6 gives weary on a holiday of " + kind, x.of(0, 6), givesOnHoliday[kind]);
      x.set(0, 2, needs[kind] - 1);
      is("6 not quite done " + kind, x.of(0, 9), 0);
      x.set(0, 2, needs[kind]);
      is("6 done " + kind, x.of(0, 9), 1);
      is("6 points", x.of(0, 2), needs[kind]);
      is("6 beyond", x.of(0, 10), BEYOND);
      is("6 beyond", x.of(0, -1), BEYOND);
      is("6 beyond", x.of(1, 0), BEYOND);
      is("6 beyond", x.of(-1, 0), BEYOND);
    }
  }

  private static void promise6Edges() {
    OthersShare x = with(PART, 50, SAILOR, 50, PET, 45, ADMIRAL, 9999, YOUNGEST, 0);
    is("6 call of 0", x.of(0, 7), 0);
    is("6 sailor as loud as long", x.of(1, 7), 10);
    is("6 pet", x.of(2, 7), 0);
    is("6 held at 0", x.of(3, 7), 0);
    x.set(1, 3, 55);
    is("6 held only behind the length", x.of(1, 7), 5);
    x.set(3, 3, 0);
    x.weary(50);
    is("6 admiral at 50", x.of(3, 7), 60);
    x.weary(51);
    is("6 admiral at 51", x.of(3, 7), 0);
    x.weary(80);
    is("6 youngest at 80", x.of(4, 6), 3);
    x.weary(81);
    is("6 youngest at 81", x.of(4, 6), 0);
    is("6 youngest waits", x.of(4, 7), 1);
    x.weary(29);
    is("6 part at 29", x.of(0, 6), 4);
    x.weary(30);
    is("6 part at 30", x.of(0, 6), 3);
    for (int part = 0; part < 4; part++) {
      x.set(part, 2, 99);
      x.set(part, 4, 9);
      is("6 youngest waits for all", x.of(4, 7), part < 3 ? 1 : 45);
    }
    x.set(4, 1, 1);
    is("6 half of 1 is cut", x.of(4, 5), 1);
    x.set(4, 2, 1);
    is("6 youngest calls, itself done", x.of(4, 7), 45);
    x.set(3, 2, 0);
    is("6 youngest waits, another not done and put off", x.of(4, 7), 1);
    is("6 put off", x.of(3, 4), 9);
    is("6 due", x.of(2, 3), 45);
    OthersShare y = with(YOUNGEST, 9999);
    is("6 youngest held at 0", y.of(0, 7), 0);
    y.part(SAILOR, 9999);
    is("6 sailor held at 0", y.of(1, 7), 0);
    is("6 youngest waits, and calls still", y.of(0, 7), 1);
    x.days(7);
    is("6 calls of a day behind", x.of(0, 7), 7);
  }

  private static void promise7Set() {
    OthersShare x = with(PART, 3, PET, 4);
    int[] low = {0, 1, 0, 0, 0};
    int[] high = {0, 99, 9999, 9999, 99};
    int[] first = {0, 10, 0, 4, 0};
    for (int what = 1; what <= 4; what++) {
      is("7 was " + what, x.set(1, what, low[what]), first[what]);
      is("7 low " + what, x.set(1, what, high[what]), low[what]);
      is("7 high " + what, x.of(1, what), high[what]);
      is("7 below " + what, x.set(1, what, low[what] - 1), BEYOND);
      is("7 above " + what, x.set(1, what, high[what] + 1), BEYOND);
      is("7 stays " + what, x.of(1, what), high[what]);
    }
    is("7 what", x.set(1, 0, 1), BEYOND);
    is("7 what", x.set(1, 5, 1), BEYOND);
    is("7 part", x.set(2, 1, 1), BEYOND);
    is("7 part", x.set(-1, 1, 1), BEYOND);
    is("7 the other one", x.of(0, 1), 10);
    is("7 the other one", x.of(0, 3), 3);
    is("7 no lateness by set", x.now(3), 0);
  }

  private static void promise8Turn() {
    OthersShare x = with(PART, 3, PET, 4);
    x.set(1, 2, 7);
    is("8 was", x.turn(1, ADMIRAL), PET);
    is("8 is", x.of(1, 0), ADMIRAL);
    is("8 keeps its points", x.of(1, 2), 7);
    is("8 needs as such", x.of(1, 5), 25);
    is("8 was", x.turn(1, YOUNGEST), ADMIRAL);
    is("8 kind", x.turn(1, 6), BEYOND);
    is("8 kind", x.turn(1, -1), BEYOND);
    is("8 part", x.turn(2, 0), BEYOND);
    is("8 part", x.turn(-1, 0), BEYOND);
    is("8 stays", x.turn(1, PART), YOUNGEST);
    is("8 the other one", x.of(0, 0), PART);
  }

  private static void promise9As() {
    int[] under = {1, 3, 5, 9, 19, 37};
    for (int kind = 0; kind < 6; kind++) {
      OthersShare x = with(kind, 0);
      x.set(0, 2, 5);
      for (int as = 0; as < 6; as++) {
        is("9 a " + kind + " as " + as, x.as(0, as), (under[kind] >> as & 1) != 0 ? 5 : KIND);
      }
      is("9 kind", x.as(0, 6), BEYOND);
      is("9 kind", x.as(0, -1), BEYOND);
      is("9 part", x.as(1, 0), BEYOND);
      is("9 part", x.as(-1, 0), BEYOND);
      is("9 told", x.status(2), 6 - Integer.bitCount(under[kind]));
    }
  }

  private static void promise10Left() {
    OthersShare x = with(SAILOR, 3);
    is("10 all", x.left(0), 20);
    x.set(0, 2, 19);
    is("10 one", x.left(0), 1);
    x.set(0, 2, 20);
    is("10 done", x.left(0), 0);
    x.set(0, 2, 21);
    is("10 more than done", x.left(0), 0);
    is("10 part", x.left(1), BEYOND);
    is("10 part", x.left(-1), BEYOND);
  }

  private static void promise11Days() {
    OthersShare x = with(PART, 1);
    is("11 one", x.days(1), 0);
    is("11 weary", x.now(2), 6);
    is("11 points", x.of(0, 2), 4);
    is("11 two", x.days(2), 1);
    is("11 late: done on day 2, due by 1", x.now(3), 1);
    is("11 weary", x.now(2), 18);
    x.days(1);
    is("11 none played", x.now(2), 8);
    x.days(1);
    is("11 held at 0", x.now(2), 0);
    is("11 below", x.days(0), BEYOND);
    is("11 above", x.days(101), BEYOND);
    is("11 day stays", x.now(0), 5);
    OthersShare y = with(PART, 2);
    y.days(3);
    is("11 not late on the day itself", y.now(3), 0);
    OthersShare z = new OthersShare();
    for (int i = 0; i < 99; i++) {
      z.days(100);
    }
    is("11 to 9998", z.days(98), 0);
    is("11 above 9999", z.days(2), STATE);
    is("11 beyond ahead of state", z.days(101), BEYOND);
    is("11 day stays", z.now(0), 9998);
    is("11 to 9999", z.days(1), 0);
    is("11 none more", z.days(1), STATE);
    is("11 the last day", z.now(0), 9999);
  }

  private static void promise11Weary() {
    OthersShare x = with(PART, 0);
    x.weary(95);
    x.days(1);
    is("11 held to 99", x.now(2), 99);
    x.free(1, 1);
    x.days(1);
    is("11 held to 99, and behind that a holiday", x.now(2), 95);
    OthersShare y = with(PET, 0);
    y.weary(2);
    y.days(1);
    is("11 pet held at 0", y.now(2), 0);
    y.weary(9);
    y.free(1, 1);
    y.days(1);
    is("11 pet on a holiday", y.now(2), 2);
    OthersShare z = with(PART, 0);
    z.set(0, 4, 2);
    z.weary(40);
    z.free(0, 1);
    z.days(1);
    is("11 rest on a holiday", z.now(2), 26);
    is("11 put off", z.of(0, 4), 1);
    z.days(1);
    is("11 rest", z.now(2), 16);
    is("11 not put off", z.of(0, 4), 0);
    z.days(1);
    is("11 played", z.of(0, 2), 4);
    is("11 gives by the weariness before", tiredPoints(), 4);
    OthersShare w = new OthersShare();
    w.free(0, 1);
    w.weary(12);
    w.days(1);
    is("11 rest on a holiday held at 0", w.now(2), 0);
  }

  private static int tiredPoints() {
    OthersShare x = with(PART, 0);
    x.weary(29);
    x.days(1);
    return x.of(0, 2);
  }

  private static void promise12On() {
    OthersShare x = with(PART, 1);
    is("12 today", x.on(0, 0, 0), 0);
    is("12 one", x.on(0, 1, 0), 4);
    is("12 two", x.on(0, 2, 0), 8);
    is("12 two", x.on(0, 2, 1), 0);
    is("12 three", x.on(0, 3, 0), 12);
    is("12 three", x.on(0, 3, 1), 1);
    is("12 all", x.on(0, 400, 0), 12);
    is("12 nothing changed", x.now(0) + x.now(2) + x.count(3), 0);
    is("12 part", x.on(1, 0, 0), BEYOND);
    is("12 part", x.on(-1, 0, 0), BEYOND);
    is("12 n", x.on(0, -1, 0), BEYOND);
    is("12 n", x.on(0, 401, 0), BEYOND);
    is("12 what", x.on(0, 0, -1), BEYOND);
    is("12 what", x.on(0, 0, 2), BEYOND);
  }

  private static void promise13Then() {
    OthersShare x = with(PART, 1, GHOST, 1);
    is("13 weary", x.then(0, 0), 0);
    is("13 weary", x.then(1, 0), 0);
    is("13 weary", x.then(4, 0), 18);
    is("13 done", x.then(0, 2), 0);
    is("13 done", x.then(1, 2), 1);
    is("13 done", x.then(4, 2), 2);
    is("13 late", x.then(3, 1), 0);
    is("13 late", x.then(4, 1), 1);
    is("13 end", x.then(400, 0), 0);
    is("13 nothing changed", x.now(0) + x.now(3) + x.count(3), 0);
    is("13 n", x.then(-1, 0), BEYOND);
    is("13 n", x.then(401, 0), BEYOND);
    is("13 what", x.then(0, -1), BEYOND);
    is("13 what", x.then(0, 3), BEYOND);
  }

  private static void promise14Done() {
    OthersShare x = with(PART, 1, GHOST, 1);
    is("14 ghost", x.done(1), 1);
    is("14 part", x.done(0), 4);
    x.set(0, 2, 10);
    is("14 done", x.done(0), 0);
    is("14 part", x.done(2), BEYOND);
    is("14 part", x.done(-1), BEYOND);
    // It calls 1 on the day 49 ahead of the one on which it is due, and is played from then on.
    OthersShare y = with(PART, 446);
    is("14 in 400", y.done(0), 400);
    y.set(0, 3, 447);
    is("14 none within 400", y.done(0), NONE);
    is("14 nothing changed", y.now(0), 0);
  }

  private static void promise15All() {
    OthersShare x = new OthersShare();
    is("15 of none", x.all(), 0);
    x.part(PART, 1);
    x.part(GHOST, 1);
    is("15 both", x.all(), 4);
    x.part(PART, 446);
    is("15 in 400", x.all(), 400);
    x.set(2, 3, 447);
    is("15 none within 400", x.all(), NONE);
    x.set(2, 2, 10);
    x.days(4);
    is("15 done", x.all(), 0);
  }

  private static void promise16Played() {
    OthersShare x = with(PART, 1, GHOST, 1);
    is("16 ghost", x.played(1), 1);
    is("16 part", x.played(0), 2);
    x.set(0, 2, 10);
    is("16 done is not played", x.played(0), NONE);
    is("16 part", x.played(2), BEYOND);
    is("16 part", x.played(-1), BEYOND);
    OthersShare y = with(PART, 448);
    is("16 in 400", y.played(0), 400);
    y.set(0, 3, 449);
    is("16 none within 400", y.played(0), NONE);
  }

  private static void promise17Later() {
    // The ghost calls louder, and the part is done a day late because of it.
    OthersShare x = with(PART, 2, GHOST, 9);
    is("17 late as it is", x.then(200, 1), 1);
    is("17 the ghost", x.later(3), 1);
    is("17 a day is too few", x.later(1), NONE);
    is("17 two days are too few", x.later(2), NONE);
    is("17 nothing changed", x.of(1, 4), 0);
    is("17 long enough to be late itself", x.later(10), NONE);
    is("17 below", x.later(0), BEYOND);
    is("17 above", x.later(61), BEYOND);
    is("17 of none", new OthersShare().later(60), NONE);
    OthersShare y = with(PART, 3, GHOST, 20, GHOST, 20);
    is("17 late as it is", y.then(200, 1), 1);
    is("17 the least of several", y.later(5), 1);
    OthersShare z = with(PART, 2, GHOST, 9);
    z.set(1, 4, 9);
    is("17 less than as it is", z.later(9), NONE);
    // PUT OFF becomes n, it isn't n more: a shorter rest calls the ghost back in time.
    OthersShare w = with(GHOST, 5);
    w.set(0, 4, 9);
    is("17 the rest becomes n", w.later(5), 0);
    is("17 n more would be late", w.later(6), NONE);
  }

  private static void promise17Horizon() {
    // A long sailor, behind it a part, behind that the ghost; put off for a day, it lets the ghost go first.
    OthersShare x = with(SAILOR, 0, PART, 0, GHOST, 0);
    school(x);
    x.set(0, 1, 99);
    lengthen(x, 1, 2, 201);
    is("17 the part is late ON 200 days, the ghost is not yet", x.then(200, 1), 2);
    is("17 and the part isn't, put off", x.later(1), 0);
    lengthen(x, 1, 2, 202);
    is("17 the part is late just behind 200 days", x.then(200, 1), 1);
    is("17 and behind 200 days it does not count", x.later(1), NONE);
    OthersShare y = with(SAILOR, 0, PART, 0);
    school(y);
    y.set(0, 1, 99);
    lengthen(y, 1, 1, 200);
    is("17 late on the last of 200 days", y.then(200, 1), 2);
    is("17 whatever is put off", y.later(1), NONE);
  }

  private static void school(OthersShare x) {
    for (int place = 0; place < 7; place++) {
      x.free(place, 0);
    }
  }

  /** Makes a part so long that another one is done in just so many days. */
  private static void lengthen(OthersShare x, int part, int other, int days) {
    for (int length = 1; length <= 99 && x.done(other) != days; length++) {
      x.set(part, 1, length);
    }
    is("lengthened", x.done(other), days);
  }

  /** Takes points from a part until another one is done in just so many days. */
  private static void takePoints(OthersShare x, int part, int other, int days) {
    for (int points = 198; points >= 0 && x.done(other) != days; points--) {
      x.set(part, 2, points);
    }
    is("points taken", x.done(other), days);
  }

  private static void promise18Horizon() {
    OthersShare x = with(GHOST, 9999);
    blockWithSeven(x);
    for (int part = 3; part < 8; part++) {
      x.set(part, 2, 198);
    }
    takePoints(x, 3, 0, 400);
    is("18 in 400", x.kind(0), GHOST);
    x.set(3, 2, x.of(3, 2) - 1);
    is("18 not in 401", x.kind(0), NONE);
    for (int part = 2; part < 8; part++) {
      x.set(part, 2, 198);
    }
    x.set(1, 2, 0);
    takePoints(x, 2, 0, 200);
    is("23 in 200", x.due(0), 60);
    x.set(2, 2, x.of(2, 2) - 1);
    is("23 not in 201", x.due(0), NONE);
  }

  private static void promise18Kind() {
    OthersShare x = with(PART, 0);
    is("18 a ghost is done in a day", x.kind(0), GHOST);
    x.set(0, 2, 5);
    // PET needs 5 more and gives 5, PART gives 4 of them; GHOST is done.
    is("18 a ghost is done", x.kind(0), GHOST);
    x.set(0, 2, 10);
    is("18 the least of those", x.kind(0), PART);
    is("18 nothing changed", x.turn(0, ADMIRAL), PART);
    is("18 the least of those", x.kind(0), PART);
    x.set(0, 2, 0);
    x.set(0, 1, 1);
    is("18 a part is done in a day, too", x.kind(0), PART);
    is("18 part", x.kind(1), BEYOND);
    is("18 part", x.kind(-1), BEYOND);
    OthersShare y = with(PART, 9999);
    is("18 a ghost calls always", y.kind(0), GHOST);
    OthersShare z = with(PART, 400);
    z.set(0, 4, 99);
    is("18 put off", z.kind(0), GHOST);
    OthersShare never = with(PART, 9999);
    blockWithSeven(never);
    is("18 none", never.kind(0), NONE);
  }

  /** Seven long sailors that call louder than the first part and last beyond 400 days together. */
  private static void blockWithSeven(OthersShare x) {
    for (int i = 0; i < 7; i++) {
      x.part(SAILOR, 0);
      x.set(i + 1, 1, 99);
    }
    school(x);
  }

  private static void promise19Zero() {
    OthersShare x = with(ADMIRAL, 0);
    school(x);
    x.set(0, 1, 5);
    // 3, 3, 3, 2, 2, 2 with 0, 10, .. 50; with 1 it falls silent at 51.
    is("19 none but 0", x.bears(6), 0);
    is("19 0, too, is too much", x.bears(5), NONE);
  }

  private static void promise19Bears() {
    OthersShare x = new OthersShare();
    is("19 of none", x.bears(1), 99);
    x.part(PART, 0);
    x.set(0, 1, 4);
    is("19 in a day", x.bears(1), 29);
    is("19 in two days", x.bears(2), 83);
    is("19 in four days", x.bears(4), 99);
    is("19 nothing changed", x.now(2), 0);
    is("19 below", x.bears(0), BEYOND);
    is("19 above", x.bears(201), BEYOND);
    x.set(0, 1, 5);
    is("19 none", x.bears(1), NONE);
    x.set(0, 1, 1);
    x.set(0, 3, 248);
    is("19 in 200", x.bears(200), 99);
    x.set(0, 3, 249);
    is("19 not in 200", x.bears(200), NONE);
  }

  private static void promise20Holiday() {
    OthersShare x = with(SAILOR, 0);
    // 20 points: 4 a day, 7 on a holiday, and fewer when weary: one holiday saves a day.
    is("20 as it is", x.all(), 6);
    is("20 the least of several", x.holiday(), 0);
    x.free(0, 1);
    is("20 as it is", x.all(), 5);
    is("20 the next", x.holiday(), 1);
    is("20 nothing changed", x.count(2), 3);
    for (int place = 0; place < 7; place++) {
      x.free(place, 1);
    }
    is("20 none that is no holiday", x.holiday(), NONE);
    is("20 of none", new OthersShare().holiday(), NONE);
    OthersShare y = with(PART, 0);
    is("20 no sooner", y.holiday(), NONE);
  }

  private static void promise20Horizon() {
    OthersShare x = with(PART, 446);
    is("20 in 400 with any", x.holiday(), NONE);
    x.set(0, 3, 447);
    is("20 in 401 with any", x.holiday(), NONE);
    OthersShare y = with(SAILOR, 454);
    school(y);
    is("20 in 401 as it is", y.all(), NONE);
    is("20 in 400 with the last of its days", y.holiday(), 0);
    y.set(0, 3, 455);
    is("20 in 401 with one", y.holiday(), NONE);
  }

  private static void promise21Horizon() {
    OthersShare x = with(PART, 446, PART, 9999);
    is("21 in 400 is not as late as never", x.last(), 1);
    x.set(0, 3, 447);
    is("21 in 401 is", x.last(), 0);
  }

  private static void promise21Last() {
    is("21 of none", new OthersShare().last(), NONE);
    OthersShare x = with(GHOST, 9, PART, 0, PART, 1, PET, 9999);
    is("21 not at all", x.last(), 3);
    x.set(3, 2, 10);
    is("21 done is not last", x.last(), 2);
    x.set(1, 3, 9999);
    is("21 the later", x.last(), 1);
    x.set(2, 3, 9999);
    is("21 the least of several", x.last(), 1);
    for (int part = 0; part < 4; part++) {
      x.set(part, 2, 99);
    }
    is("21 all done", x.last(), 0);
    is("21 nothing changed", x.now(0), 0);
  }

  private static void promise22Longest() {
    OthersShare x = with(PART, 0);
    is("22 a day", x.longest(0), 4);
    x.set(0, 3, 1);
    is("22 two days", x.longest(0), 8);
    is("22 nothing changed", x.of(0, 1), 10);
    x.set(0, 4, 9);
    is("22 none", x.longest(0), NONE);
    x.set(0, 4, 0);
    x.set(0, 2, 99);
    is("22 done with any", x.longest(0), 99);
    x.set(0, 3, 400);
    is("22 401 days", x.longest(0), STATE);
    x.set(0, 3, 399);
    is("22 400 days", x.longest(0), 99);
    x.days(1);
    x.set(0, 3, 0);
    is("22 above due", x.longest(0), STATE);
    x.set(0, 3, 1);
    is("22 on the day", x.longest(0), 99);
    x.turn(0, GHOST);
    x.set(0, 2, 0);
    is("22 a ghost of any length", x.longest(0), 99);
    OthersShare y = with(PART, 0);
    y.weary(99);
    is("22 the shortest", y.longest(0), 1);
    is("22 part", x.longest(1), BEYOND);
    is("22 part", x.longest(-1), BEYOND);
  }

  private static void promise23Due() {
    OthersShare x = with(PART, 0);
    is("23 the latest with which it calls today", x.due(0), 49);
    x.set(0, 4, 5);
    is("23 the latest with which it calls then", x.due(0), 54);
    x.set(0, 4, 99);
    is("23 to 60", x.due(0), 60);
    is("23 nothing changed", x.of(0, 3), 0);
    x.set(0, 2, 10);
    is("23 done", x.due(0), 60);
    is("23 part", x.due(1), BEYOND);
    is("23 part", x.due(-1), BEYOND);
    OthersShare y = with(PART, 0);
    blockWithSeven(y);
    is("23 none", y.due(0), NONE);
    OthersShare first = with(PART, 60, PART, 0);
    is("23 on the day itself, to be ahead of the other", first.due(0), 0);
    OthersShare z = with(GHOST, 9);
    pass(z, 9960);
    is("23 up to 9999", z.due(0), 9999);
    pass(z, 39);
    is("23 on the last day", z.due(0), 9999);
  }

  private static void promise24Feed() {
    OthersShare x = new OthersShare();
    is("24 none", x.feed(65, 0), BEYOND);
    is("24 five", x.feed(65, 5), BEYOND);
    is("24 three, the highest of these first", x.feed(0x21706172, 3), 3);
    is("24 two", x.feed(0x7420, 2), 5);
    is("24 one of many", x.feed(0x61626337, 1), 6);
    is("24 read as part 7", x.nursery(), 1);
    is("24 due by 7", x.of(0, 3), 7);
    for (int n = 1; n < 30; n++) {
      is("24 four", x.feed(0x20202020, 4), 4 * n);
    }
    is("24 119", x.feed(0x202020, 3), 119);
    is("24 full", x.feed(0x2020, 2), FULL);
    is("24 120", x.feed(0x20, 1), 120);
    is("24 full", x.feed(0x20, 1), FULL);
    is("24 beyond ahead of full", x.feed(0x20, 0), BEYOND);
    is("24 still 120", x.count(1), 120);
    is("24 blanks alone", x.nursery(), -121);
  }

  private static void promise25Wipe() {
    OthersShare x = new OthersShare();
    is("25 none", x.wipe(), 0);
    type(x, "pet 9");
    is("25 five", x.wipe(), 5);
    is("25 empty", x.count(1), 0);
    is("25 empty", x.nursery(), -1);
    told(x, "pet 8", 1);
    is("25 none of the old", x.of(0, 3), 8);
  }

  private static void promise26Nursery() {
    OthersShare x = new OthersShare();
    told(x, "part0;sailor 9999 long 99 later 99 ; pet 3 later 0;ghost 4long 1;admiral 5;youngest 06", 6);
    is("26 parts", x.count(0), 6);
    int[] dues = {0, 9999, 3, 4, 5, 6};
    for (int part = 0; part < 6; part++) {
      is("26 kind", x.of(part, 0), part);
      is("26 due", x.of(part, 3), dues[part]);
      is("26 length", x.of(part, 1), part == 1 ? 99 : part == 3 ? 1 : 10);
      is("26 put off", x.of(part, 4), part == 1 ? 99 : 0);
      is("26 points", x.of(part, 2), 0);
    }
    told(x, " free 0 ;school 6;weary 99 ", 3);
    is("26 weary", x.now(2), 99);
    is("26 holiday", x.free(0, 0), 1);
    is("26 school", x.free(6, 0), 0);
    is("26 holiday stays", x.free(5, 0), 1);
    told(x, "free 3;school 3;weary 0", 3);
    is("26 in their order", x.free(3, 0), 0);
    told(x, "part 1;part 2", 2);
    is("26 comes to what there is", x.of(7, 3), 2);
    told(x, "weary 5;part 3", -9);
    told(x, "weary 5;part", -9);
    is("26 nothing changed", x.now(2), 0);
    is("26 still 8", x.count(0), 8);
    is("26 faults are no findings", x.status(-1), 0);
  }

  private static void promise26Faults() {
    OthersShare x = new OthersShare();
    String[] texts = {"", "  ", "pet", "pet ", "pet x", "pet 10000", "pet 99999999999999999999", "pet 4294967296",
        "pet 1 pet 2", "pet 1;", "pet 1; ", ";", "pet 1;;pet 2", "pet 1 long", "pet 1 long 0", "pet 1 long 100",
        "pet 1 later", "pet 1 later 100", "pet 1 later 2 long 3", "pet 1 long 3 long 3", "pet 1 later 3 later 3",
        "pet 1 longer 3", "Pet 1", "pet 1 Long 3", "pet\t1", "pet 1,", "free", "free 7", "school 7", "school",
        "weary 100", "weary", "weary x", "3", "pets 3", "pe 3", "long 3", "pet -3", "pet 1 2", "free 1 long 2",
        "weary 00100", "pet 1 \u00e9", "part 1 later later 2", "pet 1 l", "free free", "pet ; 1", "weary 1 later 1", "petz 1", "peta 1", "pet 1 longz 1",
        "bet 1", "pit 1", "per 1"};
    int[] places = {0, 2, 3, 4, 4, 4, 4, 4,
        6, 6, 7, 0, 6, 10, 11, 11,
        11, 12, 14, 13, 14,
        6, 0, 6, 3, 5, 4, 5, 7, 6,
        6, 5, 6, 0, 0, 0, 0, 4, 6, 7,
        6, 6, 13, 6, 5, 4, 8, 0, 0, 6,
        0, 0, 0};
    for (int i = 0; i < texts.length; i++) {
      told(x, texts[i], -1 - places[i]);
    }
    is("26 none came", x.count(0), 0);
    is("26 no weariness came", x.now(2), 0);
    is("26 no holiday came", x.count(2), 2);
    told(x, "pet 00000009", 1);
    is("26 zeros ahead", x.of(0, 3), 9);
    told(x, "pet 1;pet 1;pet 1;pet 1;pet 1;pet 1;pet 1;pet 1", -43);
    is("26 a ninth comes to none", x.count(0), 1);
    told(x, "pet 1;pet 1;pet 1;pet 1;pet 1;pet 1;pet 1; free 1; petty", -52);
    told(x, "pet 1;pet 1;pet 1;pet 1;pet 1;pet 1;pet 1", 7);
    told(x, "weary 3", 1);
    is("26 no finding", x.status(-1), 0);
    is("26 an image kept does not matter", x.undo(), NONE);
  }

  private static void promise27Sheet() {
    OthersShare x = new OthersShare();
    is("27 sheet", x.sheet(-1, 8, 1), BEYOND);
    is("27 sheet", x.sheet(4, 8, 1), BEYOND);
    is("27 bits", x.sheet(0, 32, 1), BEYOND);
    is("27 bits", x.sheet(0, -8, 1), BEYOND);
    is("27 bits ahead of size", x.sheet(0, 7, -1), BEYOND);
    is("27 size", x.sheet(0, 8, -1), SIZE);
    is("27 size with bits 0", x.sheet(0, 0, -1), SIZE);
    is("27 n", x.sheet(0, 8, 41), BEYOND);
    is("27 n with bits 0", x.sheet(0, 0, 41), BEYOND);
    is("27 still missing", x.write(0, 0, 1), MISSING);
    is("27 forty", x.sheet(3, 16, 40), 40);
    x.write(3, 39, 5);
    is("27 made anew", x.sheet(3, 64, 40), 40);
    is("27 all 0", x.write(3, 39, 7), 0);
    is("27 none", x.sheet(3, 8, 0), 0);
    is("27 none is not missing", x.write(3, 0, 0), BEYOND);
    is("27 missing", x.sheet(3, 0, 40), 0);
    is("27 is missing", x.write(3, 0, 0), MISSING);
    is("27 a faulty call leaves it", x.sheet(2, 8, 3) + x.sheet(2, 8, 41) - BEYOND, 3);
    sheetIs(x, 2, 0, 0, 0);
  }

  private static void promise28Write() {
    OthersShare x = new OthersShare();
    is("28 sheet", x.write(-1, 0, 0), BEYOND);
    is("28 sheet", x.write(4, 0, 0), BEYOND);
    is("28 missing ahead of the number", x.write(0, -1, 0), MISSING);
    x.sheet(0, 8, 2);
    is("28 number", x.write(0, -1, 0), BEYOND);
    is("28 number", x.write(0, 2, 0), BEYOND);
    is("28 first", x.write(0, 0, 127), 0);
    is("28 127", x.write(0, 0, 128), 127);
    is("28 128 of 8 bits", x.write(0, 0, 0x1234), -128);
    is("28 the lowest bits", x.write(0, 0, -1), 0x34);
    is("28 with their sign", x.write(0, 0, 255), -1);
    is("28 with their sign", x.write(0, 0, 0), -1);
    x.sheet(1, 16, 1);
    x.write(1, 0, 0x18000);
    is("28 of 16 bits", x.write(1, 0, 0x7fff), -32768);
    is("28 of 16 bits", x.write(1, 0, 0), 32767);
    x.sheet(2, 64, 1);
    x.write(2, 0, Long.MIN_VALUE);
    is("28 of 64 bits", x.write(2, 0, BEYOND), Long.MIN_VALUE);
    is("28 a number like a finding", x.write(2, 0, 0), BEYOND);
    is("28 is none", x.status(0), 4);
  }

  private static void promise29Copy() {
    OthersShare x = new OthersShare();
    x.sheet(0, 8, 5);
    x.sheet(1, 8, 3);
    x.sheet(2, 16, 5);
    write(x, 0, 1, 2, 3, 4, 5);
    is("29 sheet", x.copy(-1, 0, 3, 0, 1), BEYOND);
    is("29 sheet", x.copy(3, 0, 4, 0, 1), BEYOND);
    is("29 missing", x.copy(3, 0, 2, 0, 1), MISSING);
    is("29 missing", x.copy(2, 0, 3, -1, 1), MISSING);
    is("29 kind", x.copy(0, 0, 2, 0, -1), KIND);
    is("29 from", x.copy(0, -1, 1, 0, 1), BEYOND);
    is("29 to", x.copy(0, 0, 1, -1, 1), BEYOND);
    is("29 n", x.copy(0, 0, 1, 0, -1), BEYOND);
    is("29 too many there", x.copy(0, 0, 1, 0, 4), BEYOND);
    is("29 too many here", x.copy(1, 1, 0, 0, 3), BEYOND);
    is("29 far", x.copy(0, Integer.MAX_VALUE, 1, 0, Integer.MAX_VALUE), BEYOND);
    is("29 far", x.copy(0, 1, 1, 1, Integer.MAX_VALUE), BEYOND);
    is("29 none behind the end", x.copy(0, 6, 1, 0, 0), BEYOND);
    is("29 none at the end", x.copy(0, 5, 1, 3, 0), 0);
    sheetIs(x, 1, 0, 0, 0);
    x.sheet(3, 8, 5);
    is("29 all", x.copy(0, 0, 3, 0, 5), 5);
    sheetIs(x, 3, 1, 2, 3, 4, 5);
    is("29 two", x.copy(0, 3, 1, 1, 2), 2);
    sheetIs(x, 1, 0, 4, 5);
    is("29 onto itself, upwards", x.copy(0, 0, 0, 1, 4), 4);
    sheetIs(x, 0, 1, 1, 2, 3, 4);
    is("29 onto itself, downwards", x.copy(0, 2, 0, 0, 3), 3);
    sheetIs(x, 0, 2, 3, 4, 3, 4);
  }

  private static void promise30Lays() {
    OthersShare x = with(PART, 1, PART, 2, PART, 3, PART, 4);
    is("30 sheet", x.lays(-1), BEYOND);
    is("30 sheet", x.lays(4), BEYOND);
    is("30 missing", x.lays(0), MISSING);
    x.sheet(0, 64, 6);
    write(x, 0, 9999, 10000, -1, 4, 5, 6);
    is("30 two", x.lays(0), 2);
    is("30 first", x.of(0, 3), 9999);
    is("30 too late is left out", x.of(1, 3), 2);
    is("30 below 0 is left out", x.of(2, 3), 3);
    is("30 the same came, too", x.of(3, 3), 4);
    write(x, 0, (1L << 32) + 7, 0);
    is("30 far above is left out", x.lays(0), 2);
    is("30 stays", x.of(0, 3), 9999);
    is("30 zero", x.of(1, 3), 0);
    x.sheet(0, 8, 1);
    is("30 fewer than parts", x.lays(0), 1);
    is("30 came", x.of(0, 3), 0);
    is("30 the others stay", x.of(3, 3), 4);
    x.sheet(0, 8, 0);
    is("30 none", x.lays(0), 0);
  }

  private static void promise31Book() {
    OthersShare x = with(PART, 2, GHOST, 9);
    is("31 sheet", x.book(-1), BEYOND);
    is("31 sheet", x.book(4), BEYOND);
    is("31 missing", x.book(1), MISSING);
    x.sheet(1, 8, 6);
    is("31 six", x.book(1), 6);
    sheetIs(x, 1, 1, 0, 0, 0, -1, -1);
    is("31 nothing changed", x.now(0) + x.now(5), 0);
    x.sheet(1, 64, 0);
    is("31 none", x.book(1), 0);
    x.days(1);
    x.sheet(1, 64, 40);
    is("31 forty", x.book(1), 40);
    is("31 from now on", x.write(1, 2, 0), 0);
    is("31 none", x.write(1, 3, 0), -1);
    is("31 none", x.write(1, 39, 0), -1);
  }

  private static void promise32Read() {
    OthersShare x = with(PART, 0);
    is("32 sheet", x.read(-1, 9), BEYOND);
    is("32 sheet", x.read(4, 0), BEYOND);
    is("32 missing ahead of the part", x.read(0, 9), MISSING);
    x.sheet(0, 8, 0);
    is("32 part", x.read(0, 1), BEYOND);
    is("32 part", x.read(0, -1), BEYOND);
    is("32 all of none", x.read(0, 0), 600);
    x.sheet(0, 8, 1);
    is("32 today", x.read(0, 0), 600);
    x.write(0, 0, 1);
    is("32 today not", x.read(0, 0), 0);
    x.sheet(0, 8, 2);
    // 5 in a day: a PET or a YOUNGEST with weariness 0 to 29.
    write(x, 0, 0, 5);
    is("32 five", x.read(0, 0), 60);
    // 3 in a day: PART and SAILOR at 30 to 59, PET and YOUNGEST at 60 to 89 (the latter to 80), ADMIRAL at 0 to 29.
    write(x, 0, 0, 3);
    is("32 three", x.read(0, 0), 30 + 30 + 30 + 30 + 21);
    is("32 nothing changed", x.of(0, 0) + x.now(2) + x.now(0), 0);
    x.sheet(0, 16, 3);
    // PET and YOUNGEST: 5, 10, and done; 24 with the one, and 29 with the other is still below 30.
    write(x, 0, 0, 5, 10);
    is("32 ten", x.read(0, 0), 60);
    x.set(0, 2, 300);
    write(x, 0, 300, 300, 300);
    is("32 done and never played", x.read(0, 0), 600);
    x.sheet(0, 8, 1);
    x.write(0, 0, 300);
    is("32 of 8 bits it is another number", x.read(0, 0), 0);
  }

  private static void promise33Image() {
    OthersShare x = with(PART, 5, GHOST, 0);
    x.set(0, 1, 3);
    x.set(0, 4, 2);
    x.days(2);
    x.free(3, 1);
    x.weary(44);
    is("33 kept", x.image(), 1);
    x.part(PET, 0);
    x.turn(0, PET);
    x.set(0, 1, 9);
    x.set(0, 2, 9);
    x.set(0, 3, 9);
    x.set(0, 4, 9);
    x.free(3, 0);
    x.free(5, 0);
    x.weary(1);
    x.days(9);
    type(x, "abc");
    x.sheet(0, 8, 3);
    is("33 late since", x.now(3), 1);
    is("33 back", x.undo(), 2);
    is("33 parts", x.count(0), 2);
    int[] of = {PART, 3, 0, 5, 0};
    for (int what = 0; what < 5; what++) {
      is("33 of " + what, x.of(0, what), of[what]);
    }
    is("33 day", x.now(0), 2);
    is("33 weary", x.now(2), 44);
    is("33 late", x.now(3), 0);
    is("33 free", x.free(3, 1), 1);
    is("33 free", x.free(5, 1), 1);
    is("33 the tape stays", x.wipe(), 3);
    is("33 the sheets stay", x.write(0, 2, 0), 0);
  }

  private static void promise34Undo() {
    OthersShare x = new OthersShare();
    is("34 nothing kept", x.undo(), NONE);
    x.image();
    x.part(PART, 0);
    x.image();
    x.part(PET, 0);
    is("34 the latest", x.undo(), 1);
    x.part(GHOST, 0);
    x.set(0, 1, 5);
    is("34 it stays", x.undo(), 1);
    is("34 and is not what goes on", x.of(0, 1), 10);
    x.set(0, 1, 6);
    is("34 again", x.undo(), 1);
    is("34 and again", x.of(0, 1), 10);
    is("34 none taken back", x.status(-1), 1);
  }

  private static void promise35Tear() {
    OthersShare x = new OthersShare();
    is("35 nothing", x.tear(), 0);
    x.part(PART, 0);
    x.image();
    x.image();
    is("35 torn", x.tear(), 1);
    is("35 nothing more", x.tear(), 0);
    is("35 nothing is kept", x.undo(), NONE);
    is("35 what there is stays", x.count(0), 1);
  }

  private static void promise36Count() {
    OthersShare x = with(PART, 0, PET, 0);
    x.set(0, 2, 9999);
    x.set(1, 2, 9999);
    x.free(0, 1);
    type(x, "abcde");
    is("36 parts", x.count(0), 2);
    is("36 bytes", x.count(1), 5);
    is("36 holidays", x.count(2), 3);
    is("36 played", x.count(3), 19998);
    is("36 below", x.count(-1), BEYOND);
    is("36 above", x.count(4), BEYOND);
  }

  private static void promise37Status() {
    OthersShare x = new OthersShare();
    is("37 none", x.status(-1), 0);
    x.weary(100);
    x.sheet(0, 8, -1);
    x.write(0, 0, 0);
    x.last();
    x.undo();
    for (int i = 0; i < 9; i++) {
      x.part(PART, 0);
    }
    x.as(0, SAILOR);
    x.days(1);
    x.longest(7);
    x.set(7, 3, 0);
    x.longest(7);
    int[] counts = {1, 1, 1, 2, 2, 1, 1};
    for (int which = 0; which < 7; which++) {
      is("37 " + which, x.status(which), counts[which]);
    }
    is("37 all", x.status(-1), 9);
    is("37 above", x.status(7), BEYOND);
    is("37 counted from then on", x.status(0), 2);
    is("37 below", x.status(-2), BEYOND);
    is("37 counted from then on", x.status(-1), 11);
    x.image();
    x.weary(-1);
    x.undo();
    is("37 undo takes none back", x.status(-1), 12);
  }

  public static void main(String[] args) {
    anyNumbers();
    promise1New();
    promise2Weary();
    promise3Free();
    promise4Now();
    promise5Part();
    promise6Of();
    promise6Edges();
    promise7Set();
    promise8Turn();
    promise9As();
    promise10Left();
    promise11Days();
    promise11Weary();
    promise12On();
    promise13Then();
    promise14Done();
    promise15All();
    promise16Played();
    promise17Later();
    promise17Horizon();
    promise18Kind();
    promise18Horizon();
    promise19Bears();
    promise19Zero();
    promise20Holiday();
    promise20Horizon();
    promise21Last();
    promise21Horizon();
    promise22Longest();
    promise23Due();
    promise24Feed();
    promise25Wipe();
    promise26Nursery();
    promise26Faults();
    promise27Sheet();
    promise28Write();
    promise29Copy();
    promise30Lays();
    promise31Book();
    promise32Read();
    promise33Image();
    promise34Undo();
    promise35Tear();
    promise36Count();
    promise37Status();
    System.out.println(right + " answers are as due, " + wrong + " are not");
    if (wrong != 0) {
      System.exit(1);
    }
  }
}
