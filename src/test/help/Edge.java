import java.util.ArrayList;
import java.util.List;
import java.util.function.Supplier;

/** What the tests of the document's boundary cases share. */
final class Edge {
  static final int BEYOND = -1000000001;
  static final int FULL = -1000000002;
  static final int KIND = -1000000003;
  static final int NONE = -1000000004;
  static final int STATE = -1000000005;
  static final int MISSING = -1000000006;
  static final int SIZE = -1000000007;

  static final int PART = 0;
  static final int SAILOR = 1;
  static final int PET = 2;
  static final int GHOST = 3;
  static final int ADMIRAL = 4;
  static final int YOUNGEST = 5;

  static final int LOW = Integer.MIN_VALUE;
  static final int HIGH = Integer.MAX_VALUE;

  interface Call {
    long of(OthersShare x);
  }

  private static String sentence = "";
  private static int sentences = 0;
  private static int right = 0;
  private static int wrong = 0;

  private Edge() {
  }

  /** The document's words that all answers behind this are held against. */
  static void says(String words) {
    sentence = words;
    sentences++;
  }

  static void is(String what, long got, long want) {
    if (got == want) {
      right++;
    } else {
      wrong++;
      System.out.println("\"" + sentence + "\": " + what + " answered " + got + ", due is " + want);
    }
  }

  /** A call that answers a finding: the status of it is one more, and all else as in a twin that wasn't asked. */
  static void refuses(String what, Supplier<OthersShare> made, Call call, long finding) {
    OthersShare asked = made.get();
    OthersShare twin = made.get();
    is(what, call.of(asked), finding);
    for (int which = -1; which < 7; which++) {
      int more = which == -1 || which == BEYOND - finding ? 1 : 0;
      is("behind " + what + " status(" + which + ")", asked.status(which), twin.status(which) + more);
    }
    same("behind " + what, asked, twin);
  }

  /** A call that answers a number and changes nothing, status() neither. */
  static void asks(String what, Supplier<OthersShare> made, Call call, long want) {
    OthersShare asked = made.get();
    OthersShare twin = made.get();
    is(what, call.of(asked), want);
    is("behind " + what + " status(-1)", asked.status(-1), twin.status(-1));
    same("behind " + what, asked, twin);
  }

  /** Both hold the same, findings left out; both are spent behind this. */
  static void same(String what, OthersShare one, OthersShare other) {
    List<Long> told = all(one);
    List<Long> due = all(other);
    is(what + ": what there is, told in as many numbers", told.size(), due.size());
    for (int i = 0; i < Math.min(told.size(), due.size()); i++) {
      is(what + ": number " + i + " of all there is", told.get(i), due.get(i));
    }
  }

  /** All that can be told of an object by its answers; some 250 calls, and little of it is left. */
  private static List<Long> all(OthersShare x) {
    List<Long> told = new ArrayList<>();
    tellNursery(x, told);
    for (int s = 0; s < 4; s++) {
      for (int t = s; t < 4; t++) {
        told.add((long) x.copy(s, 0, t, 0, 0));
      }
    }
    for (int s = 0; s < 4; s++) {
      tellSheet(x, s, told);
    }
    told.add((long) x.count(1));
    told.add((long) x.nursery());
    tellNursery(x, told);
    told.add((long) x.undo());
    tellNursery(x, told);
    told.add((long) x.tear());
    return told;
  }

  private static void tellNursery(OthersShare x, List<Long> told) {
    for (int what = 0; what < 7; what++) {
      told.add((long) x.now(what));
    }
    int parts = x.count(0);
    told.add((long) parts);
    for (int part = 0; part < parts; part++) {
      for (int what = 0; what < 5; what++) {
        told.add((long) x.of(part, what));
      }
    }
    for (int place = 0; place < 7; place++) {
      int was = x.free(place, 1);
      told.add((long) was);
      x.free(place, was);
    }
  }

  private static void tellSheet(OthersShare x, int s, List<Long> told) {
    for (int i = 0; i <= 40; i++) {
      long was = x.write(s, i, 0x7ffeL << 40 | 0x8081);
      told.add(was);
      if (was == BEYOND || was == MISSING) {
        return;
      }
      told.add(x.write(s, i, 0));
    }
  }

  static OthersShare with(int... kindsAndDues) {
    OthersShare x = new OthersShare();
    for (int i = 0; i < kindsAndDues.length; i += 2) {
      is("with: part", x.part(kindsAndDues[i], kindsAndDues[i + 1]), i / 2);
    }
    return x;
  }

  /** Five parts, of which some are done, late or put off; an image, a tape, three sheets, a finding. */
  static OthersShare rich() {
    OthersShare x = with(GHOST, 0, SAILOR, 3, PET, 9, ADMIRAL, 20);
    x.set(1, 1, 3);
    x.days(4);
    x.free(2, 1);
    x.image();
    x.part(YOUNGEST, 5);
    x.part(GHOST, 2);
    x.set(4, 4, 6);
    x.set(3, 1, 42);
    x.days(5);
    x.free(5, 0);
    x.weary(61);
    sheet(x, 0, 8, 5, -6, 7);
    sheet(x, 1, 16, 300, 1, 2, 9999);
    sheet(x, 2, 64, 1L << 40, 3, -1, 0, 8);
    type(x, "pet 77;weary 5;free 1");
    x.weary(100);
    return x;
  }

  /** As many parts as there can be. */
  static OthersShare full() {
    OthersShare x = rich();
    x.part(PART, 30);
    x.part(PET, 9999);
    x.wipe();
    type(x, "weary 5;free 1");
    return x;
  }

  /** A nursery that has come to a day, with no parts. */
  static OthersShare at(int day) {
    OthersShare x = new OthersShare();
    pass(x, day);
    return x;
  }

  static void pass(OthersShare x, int days) {
    for (int gone = 0; gone < days; gone += 100) {
      x.days(Math.min(100, days - gone));
    }
  }

  static OthersShare school(OthersShare x) {
    for (int place = 0; place < 7; place++) {
      x.free(place, 0);
    }
    return x;
  }

  static OthersShare vacation(OthersShare x) {
    for (int place = 0; place < 7; place++) {
      x.free(place, 1);
    }
    return x;
  }

  static void sheet(OthersShare x, int s, int bits, long... numbers) {
    is("sheet", x.sheet(s, bits, numbers.length), numbers.length);
    for (int i = 0; i < numbers.length; i++) {
      x.write(s, i, numbers[i]);
    }
  }

  static void sheetIs(OthersShare x, int s, long... numbers) {
    for (int i = 0; i < numbers.length; i++) {
      long was = x.write(s, i, 0);
      is("number " + i + " of sheet " + s, was, numbers[i]);
      x.write(s, i, was);
    }
    is("a number behind the last of sheet " + s, x.write(s, numbers.length, 0), BEYOND);
  }

  static OthersShare type(OthersShare x, String text) {
    for (int i = 0; i < text.length(); i += 4) {
      int n = Math.min(4, text.length() - i);
      int bytes = 0;
      for (int k = 0; k < n; k++) {
        bytes = bytes << 8 | text.charAt(i + k);
      }
      x.feed(bytes, n);
    }
    return x;
  }

  /** How many sentences were held; ends with exit code 1, if an answer was wrong. */
  static void end() {
    System.out.println(sentences + " sentences, " + right + " answers are as due, " + wrong + " are not");
    if (wrong != 0) {
      System.exit(1);
    }
  }
}
