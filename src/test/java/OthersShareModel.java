import java.util.ArrayList;
import java.util.Arrays;
import java.util.List;
import java.util.Random;
import java.util.function.Consumer;
import java.util.function.ToIntFunction;

/** The class against a second model, written after the document's words alone, over random runs. */
public final class OthersShareModel {
  private static final int BEYOND = -1000000001;
  private static final int FULL = -1000000002;
  private static final int KIND = -1000000003;
  private static final int NONE = -1000000004;
  private static final int STATE = -1000000005;
  private static final int MISSING = -1000000006;
  private static final int SIZE = -1000000007;

  /** A kind says what it does, as the one above it, and more. */
  private static class Plain {
    int needs(int length) {
      return length;
    }

    int gives(int w, boolean holiday) {
      return 4 - w / 30;
    }

    int calls(int length, int d, int w, boolean others) {
      return 50 + d;
    }

    int tires() {
      return 6;
    }
  }

  private static class Sailor extends Plain {
    @Override int needs(int length) {
      return 2 * length;
    }

    @Override int gives(int w, boolean holiday) {
      return super.gives(w, holiday) + (holiday ? 3 : 0);
    }

    @Override int calls(int length, int d, int w, boolean others) {
      return super.calls(length, d, w, others) + length;
    }

    @Override int tires() {
      return super.tires() + 4;
    }
  }

  private static class Pet extends Plain {
    @Override int gives(int w, boolean holiday) {
      return super.gives(w, holiday) + 1;
    }

    @Override int calls(int length, int d, int w, boolean others) {
      return super.calls(length, d, w, others) - 5;
    }

    @Override int tires() {
      return -3;
    }
  }

  private static final class Ghost extends Plain {
    @Override int needs(int length) {
      return 1;
    }

    @Override int gives(int w, boolean holiday) {
      return 1;
    }

    @Override int calls(int length, int d, int w, boolean others) {
      return 60;
    }

    @Override int tires() {
      return 0;
    }
  }

  private static final class Admiral extends Sailor {
    @Override int needs(int length) {
      return super.needs(length) + 5;
    }

    @Override int gives(int w, boolean holiday) {
      return super.gives(w, holiday) - 1;
    }

    @Override int calls(int length, int d, int w, boolean others) {
      return w > 50 ? 0 : super.calls(length, d, w, others);
    }
  }

  private static final class Youngest extends Pet {
    @Override int needs(int length) {
      return super.needs(length) + super.needs(length) / 2;
    }

    @Override int gives(int w, boolean holiday) {
      return w > 80 ? 0 : super.gives(w, holiday);
    }

    @Override int calls(int length, int d, int w, boolean others) {
      return others ? 1 : super.calls(length, d, w, others);
    }

    @Override int tires() {
      return super.tires() + 2;
    }
  }

  private static final Plain[] KINDS = {new Plain(), new Sailor(), new Pet(), new Ghost(), new Admiral(),
      new Youngest()};
  private static final List<String> NAMES = List.of("part", "sailor", "pet", "ghost", "admiral", "youngest");

  private static final class Part {
    int kind;
    int length = 10;
    int played;
    int due;
    int off;

    Part(int kind, int due) {
      this.kind = kind;
      this.due = due;
    }

    Part twin() {
      Part p = new Part(kind, due);
      p.length = length;
      p.played = played;
      p.off = off;
      return p;
    }

    Plain as() {
      return KINDS[kind];
    }

    boolean done() {
      return played >= as().needs(length);
    }
  }

  private static final class House {
    int day;
    int weary;
    int late;
    int[] free = {0, 0, 0, 0, 0, 1, 1};
    List<Part> parts = new ArrayList<>();

    House twin() {
      House h = new House();
      h.day = day;
      h.weary = weary;
      h.late = late;
      h.free = free.clone();
      for (Part p : parts) {
        h.parts.add(p.twin());
      }
      return h;
    }

    House with(Consumer<House> change) {
      House h = twin();
      change.accept(h);
      return h;
    }

    House on(int n) {
      House h = twin();
      for (int i = 0; i < n; i++) {
        h.go();
      }
      return h;
    }

    boolean holiday() {
      return free[day % 7] == 1;
    }

    int gives(Part p) {
      return Math.max(0, p.as().gives(weary, holiday()));
    }

    int calls(Part p) {
      boolean others = parts.stream().anyMatch(q -> q != p && !q.done());
      return Math.max(0, p.as().calls(p.length, day - p.due, weary, others));
    }

    int plays() {
      int best = -1;
      for (int i = parts.size() - 1; i >= 0; i--) {
        Part p = parts.get(i);
        if (!p.done() && p.off == 0 && calls(p) > 0 && (best < 0 || calls(p) >= calls(parts.get(best)))) {
          best = i;
        }
      }
      return best;
    }

    int go() {
      int who = plays();
      boolean holiday = holiday();
      if (who < 0) {
        weary = Math.max(weary - 10, 0);
      } else {
        Part p = parts.get(who);
        p.played = Math.min(9999, p.played + gives(p));
        weary = Math.min(99, Math.max(0, weary + p.as().tires()));
        if (p.done() && day > p.due) {
          late = Math.min(9999, late + 1);
        }
      }
      if (holiday) {
        weary = Math.max(weary - 4, 0);
      }
      for (Part p : parts) {
        p.off = Math.max(p.off - 1, 0);
      }
      day++;
      return who;
    }

    int set(java.util.function.Predicate<Part> p) {
      int set = 0;
      for (int i = 0; i < parts.size(); i++) {
        set |= p.test(parts.get(i)) ? 1 << i : 0;
      }
      return set;
    }

    /** The first n from 0 to most with which it holds; -1: none. */
    int first(int most, java.util.function.Predicate<House> holds) {
      House h = twin();
      for (int n = 0; n <= most; n++) {
        if (holds.test(h)) {
          return n;
        }
        h.go();
      }
      return -1;
    }

    int doneIn(int part, int most) {
      return first(most, h -> h.parts.get(part).done());
    }

    int allIn(int most) {
      return first(most, h -> h.parts.stream().allMatch(Part::done));
    }
  }

  /** The value of low to high that has the least answer that isn't below 0; of several the least, or the latest. */
  private static int best(int low, int high, boolean latest, ToIntFunction<Integer> answer) {
    int best = -1;
    int least = Integer.MAX_VALUE;
    for (int v = low; v <= high; v++) {
      int a = answer.applyAsInt(v);
      if (a >= 0 && (a < least || (latest && a == least))) {
        best = v;
        least = a;
      }
    }
    return best;
  }

  private static final class Model {
    House house = new House();
    House kept;
    final StringBuilder tape = new StringBuilder();
    final long[][] sheets = new long[4][];
    final int[] bits = new int[4];
    final int[] told = new int[7];

    private boolean no(int part) {
      return part < 0 || part >= house.parts.size();
    }

    private static boolean out(int v, int low, int high) {
      return v < low || v > high;
    }

    private static int orNone(int v) {
      return v < 0 ? NONE : v;
    }

    /** What a call answers, by its name and arguments; a finding is counted. */
    long call(String name, long[] a) {
      int p = (int) a[0];
      int q = (int) a[1];
      int r = (int) a[2];
      if (name.equals("write")) {
        return write(p, q, a[2]);
      }
      int answer = switch (name) {
        case "sheet", "copy", "lays", "book", "read" -> sheets(name, p, q, r, (int) a[3], (int) a[4]);
        case "later", "kind", "bears", "holiday", "last", "longest", "due" -> best(name, p);
        case "feed", "wipe", "nursery" -> text(name, p, q);
        case "days", "on", "then", "done", "all", "played" -> days(name, p, q, r);
        case "image", "undo", "tear", "count", "status" -> images(name, p);
        default -> parts(name, p, q, r);
      };
      if (answer <= BEYOND && answer >= SIZE) {
        told[BEYOND - answer]++;
      }
      return answer;
    }

    private int parts(String name, int p, int q, int r) {
      switch (name) {
        case "weary": {
          if (out(p, 0, 99)) {
            return BEYOND;
          }
          int was = house.weary;
          house.weary = p;
          return was;
        }
        case "free": {
          if (out(p, 0, 6) || out(q, 0, 1)) {
            return BEYOND;
          }
          int was = house.free[p];
          house.free[p] = q;
          return was;
        }
        case "now":
          return out(p, 0, 6) ? BEYOND : new int[] {house.day, house.holiday() ? 1 : 0, house.weary, house.late,
              house.plays(), house.set(Part::done), house.set(x -> !x.done() && house.day > x.due)}[p];
        case "part":
          if (out(p, 0, 5) || out(q, 0, 9999)) {
            return BEYOND;
          }
          if (house.parts.size() == 8) {
            return FULL;
          }
          house.parts.add(new Part(p, q));
          return house.parts.size() - 1;
        default:
          return no(p) ? BEYOND : ofPart(name, house.parts.get(p), q, r);
      }
    }

    private int ofPart(String name, Part x, int q, int r) {
      switch (name) {
        case "of":
          return out(q, 0, 9) ? BEYOND : new int[] {x.kind, x.length, x.played, x.due, x.off, x.as().needs(x.length),
              house.gives(x), house.calls(x), 100 + x.as().tires(), x.done() ? 1 : 0}[q];
        case "set": {
          int[] was = {0, x.length, x.played, x.due, x.off};
          int[] high = {0, 99, 9999, 9999, 99};
          if (out(q, 1, 4) || out(r, q == 1 ? 1 : 0, high[q])) {
            return BEYOND;
          }
          x.length = q == 1 ? r : x.length;
          x.played = q == 2 ? r : x.played;
          x.due = q == 3 ? r : x.due;
          x.off = q == 4 ? r : x.off;
          return was[q];
        }
        case "turn": {
          if (out(q, 0, 5)) {
            return BEYOND;
          }
          int was = x.kind;
          x.kind = q;
          return was;
        }
        case "as":
          return out(q, 0, 5) ? BEYOND : KINDS[q].getClass().isInstance(x.as()) ? x.played : KIND;
        case "left":
          return Math.max(0, x.as().needs(x.length) - x.played);
        default:
          throw new IllegalStateException(name);
      }
    }

    private int days(String name, int p, int q, int r) {
      switch (name) {
        case "days":
          if (out(p, 1, 100)) {
            return BEYOND;
          }
          if (house.day + p > 9999) {
            return STATE;
          }
          house = house.on(p);
          return house.set(Part::done);
        case "on": {
          if (no(p) || out(q, 0, 400) || out(r, 0, 1)) {
            return BEYOND;
          }
          Part x = house.on(q).parts.get(p);
          return r == 0 ? x.played : x.done() ? 1 : 0;
        }
        case "then": {
          if (out(p, 0, 400) || out(q, 0, 2)) {
            return BEYOND;
          }
          House h = house.on(p);
          return new int[] {h.weary, h.late, Integer.bitCount(h.set(Part::done))}[q];
        }
        case "done":
          return no(p) ? BEYOND : orNone(house.doneIn(p, 400));
        case "all":
          return orNone(house.allIn(400));
        default: {
          if (no(p)) {
            return BEYOND;
          }
          int before = house.first(399, h -> h.plays() == p);
          return before < 0 ? NONE : before + 1;
        }
      }
    }

    private int best(String name, int p) {
      int last = house.parts.size() - 1;
      switch (name) {
        case "later": {
          if (out(p, 1, 60)) {
            return BEYOND;
          }
          int asItIs = house.on(200).late;
          return orNone(OthersShareModel.best(0, last, false, v -> {
            int late = house.with(h -> h.parts.get(v).off = p).on(200).late;
            return late < asItIs ? late : -1;
          }));
        }
        case "kind":
          return no(p) ? BEYOND
              : orNone(OthersShareModel.best(0, 5, false, v -> house.with(h -> h.parts.get(p).kind = v).doneIn(p, 400)));
        case "bears":
          return out(p, 1, 200) ? BEYOND : orNone(OthersShareModel.best(0, 99, true,
              v -> house.with(h -> h.weary = v).on(p).parts.stream().allMatch(Part::done) ? 0 : -1));
        case "holiday": {
          int asItIs = house.allIn(400);
          return orNone(OthersShareModel.best(0, 6, false, v -> {
            int days = house.free[v] == 1 ? -1 : house.with(h -> h.free[v] = 1).allIn(400);
            return asItIs < 0 || days < asItIs ? days : -1;
          }));
        }
        case "last":
          return orNone(OthersShareModel.best(0, last, false, v -> {
            int days = house.doneIn(v, 400);
            return days < 0 ? 0 : 1000 - days;
          }));
        case "longest": {
          if (no(p)) {
            return BEYOND;
          }
          int days = house.parts.get(p).due - house.day + 1;
          return days < 1 || days > 400 ? STATE : orNone(OthersShareModel.best(1, 99, true,
              v -> house.with(h -> h.parts.get(p).length = v).on(days).parts.get(p).done() ? 0 : -1));
        }
        default:
          return no(p) ? BEYOND : orNone(OthersShareModel.best(house.day, Math.min(9999, house.day + 60), true,
              v -> house.with(h -> h.parts.get(p).due = v).doneIn(p, 200)));
      }
    }

    private int text(String name, int p, int q) {
      int was = tape.length();
      switch (name) {
        case "feed":
          if (out(q, 1, 4)) {
            return BEYOND;
          }
          if (was + q > 120) {
            return FULL;
          }
          for (int i = q - 1; i >= 0; i--) {
            tape.append((char) (p >>> 8 * i & 255));
          }
          return tape.length();
        case "wipe":
          tape.setLength(0);
          return was;
        default: {
          String text = tape.toString();
          tape.setLength(0);
          House h = house.twin();
          int items = new Text(text, h).items();
          house = items < 0 ? house : h;
          return items;
        }
      }
    }

    private boolean noSheet(int s) {
      return s < 0 || s > 3;
    }

    private static long low(long v, int bits) {
      return v << 64 - bits >> 64 - bits;
    }

    private long write(int s, int i, long v) {
      int finding = noSheet(s) ? BEYOND : sheets[s] == null ? MISSING : out(i, 0, sheets[s].length - 1) ? BEYOND : 0;
      if (finding != 0) {
        told[BEYOND - finding]++;
        return finding;
      }
      long was = sheets[s][i];
      sheets[s][i] = low(v, bits[s]);
      return was;
    }

    private int sheets(String name, int p, int q, int r, int to, int n) {
      if (noSheet(p) || (name.equals("copy") && noSheet(r))) {
        return BEYOND;
      }
      if (name.equals("sheet")) {
        return newSheet(p, q, r);
      }
      if (sheets[p] == null || (name.equals("copy") && sheets[r] == null)) {
        return MISSING;
      }
      switch (name) {
        case "copy": {
          if (bits[p] != bits[r]) {
            return KIND;
          }
          if (q < 0 || to < 0 || n < 0 || (long) q + n > sheets[p].length || (long) to + n > sheets[r].length) {
            return BEYOND;
          }
          long[] were = sheets[p].clone();
          for (int i = 0; i < n; i++) {
            sheets[r][to + i] = were[q + i];
          }
          return n;
        }
        case "lays": {
          int came = 0;
          for (int i = 0; i < sheets[p].length; i++) {
            if (!no(i) && sheets[p][i] >= 0 && sheets[p][i] <= 9999) {
              house.parts.get(i).due = (int) sheets[p][i];
              came++;
            }
          }
          return came;
        }
        case "book":
          for (int i = 0; i < sheets[p].length; i++) {
            sheets[p][i] = house.on(i).plays();
          }
          return sheets[p].length;
        default:
          return no(q) ? BEYOND : pairs(sheets[p], q);
      }
    }

    private int newSheet(int s, int newBits, int n) {
      if (newBits != 0 && newBits != 8 && newBits != 16 && newBits != 64) {
        return BEYOND;
      }
      if (n < 0) {
        return SIZE;
      }
      if (n > 40) {
        return BEYOND;
      }
      bits[s] = newBits;
      sheets[s] = newBits == 0 ? null : new long[n];
      return newBits == 0 ? 0 : n;
    }

    private int pairs(long[] numbers, int part) {
      int pairs = 0;
      for (int pair = 0; pair < 600; pair++) {
        int kind = pair / 100;
        int weary = pair % 100;
        House h = house.twin();
        h.parts.get(part).kind = kind;
        h.weary = weary;
        boolean so = true;
        for (int i = 0; so && i < numbers.length; i++) {
          so = h.parts.get(part).played == numbers[i];
          h.go();
        }
        pairs += so ? 1 : 0;
      }
      return pairs;
    }

    private int images(String name, int p) {
      switch (name) {
        case "image":
          kept = house.twin();
          return 1;
        case "undo":
          if (kept == null) {
            return NONE;
          }
          house = kept.twin();
          return house.parts.size();
        case "tear": {
          int was = kept == null ? 0 : 1;
          kept = null;
          return was;
        }
        case "count":
          return out(p, 0, 3) ? BEYOND : new int[] {house.parts.size(), tape.length(),
              Arrays.stream(house.free).sum(), house.parts.stream().mapToInt(x -> x.played).sum()}[p];
        default:
          return out(p, -1, 6) ? BEYOND : p < 0 ? Arrays.stream(told).sum() : told[p];
      }
    }
  }

  /** The text, cut into tokens first and then read by a row of what may stand. */
  private static final class Text {
    private final List<String> tokens = new ArrayList<>();
    private final List<Integer> places = new ArrayList<>();
    private final House house;
    private int at;

    Text(String text, House house) {
      this.house = house;
      java.util.regex.Matcher m =
          java.util.regex.Pattern.compile("[a-z]+|[0-9]+|;|[^ ]", java.util.regex.Pattern.DOTALL).matcher(text);
      while (m.find()) {
        tokens.add(m.group());
        places.add(m.start());
      }
      tokens.add("");
      places.add(text.length());
    }

    int items() {
      int items = 0;
      try {
        do {
          item();
          items++;
        } while (has(";"));
        if (!tokens.get(at).isEmpty()) {
          throw new IllegalArgumentException();
        }
        return items;
      } catch (IllegalArgumentException fault) {
        return -1 - places.get(at);
      }
    }

    private boolean has(String token) {
      if (tokens.get(at).equals(token)) {
        at++;
        return true;
      }
      return false;
    }

    private int number(int low, int high) {
      String t = tokens.get(at);
      if (!t.matches("[0-9]+") || new java.math.BigInteger(t).bitLength() > 20) {
        throw new IllegalArgumentException();
      }
      int v = new java.math.BigInteger(t).intValue();
      if (v < low || v > high) {
        throw new IllegalArgumentException();
      }
      at++;
      return v;
    }

    private void item() {
      int kind = NAMES.indexOf(tokens.get(at));
      if (kind >= 0 && house.parts.size() < 8) {
        at++;
        Part p = new Part(kind, number(0, 9999));
        p.length = has("long") ? number(1, 99) : 10;
        p.off = has("later") ? number(0, 99) : 0;
        house.parts.add(p);
      } else if (has("free")) {
        house.free[number(0, 6)] = 1;
      } else if (has("school")) {
        house.free[number(0, 6)] = 0;
      } else if (has("weary")) {
        house.weary = number(0, 99);
      } else {
        throw new IllegalArgumentException();
      }
    }
  }

  private static final String[] CALLS = {"weary", "free", "now", "part", "of", "set", "turn", "as", "left", "days", "on",
      "then", "done", "all", "played", "later", "kind", "bears", "holiday", "last", "longest", "due", "feed", "wipe",
      "nursery", "sheet", "write", "copy", "lays", "book", "read", "image", "undo", "tear", "count", "status"};

  private static long ask(OthersShare x, String name, long[] a) {
    int p = (int) a[0];
    int q = (int) a[1];
    int r = (int) a[2];
    return switch (name) {
      case "weary" -> x.weary(p);
      case "free" -> x.free(p, q);
      case "now" -> x.now(p);
      case "part" -> x.part(p, q);
      case "of" -> x.of(p, q);
      case "set" -> x.set(p, q, r);
      case "turn" -> x.turn(p, q);
      case "as" -> x.as(p, q);
      case "left" -> x.left(p);
      case "days" -> x.days(p);
      case "on" -> x.on(p, q, r);
      case "then" -> x.then(p, q);
      case "done" -> x.done(p);
      case "all" -> x.all();
      case "played" -> x.played(p);
      case "later" -> x.later(p);
      case "kind" -> x.kind(p);
      case "bears" -> x.bears(p);
      case "holiday" -> x.holiday();
      case "last" -> x.last();
      case "longest" -> x.longest(p);
      case "due" -> x.due(p);
      case "feed" -> x.feed(p, q);
      case "wipe" -> x.wipe();
      case "nursery" -> x.nursery();
      case "sheet" -> x.sheet(p, q, r);
      case "write" -> x.write(p, q, a[2]);
      case "copy" -> x.copy(p, q, r, (int) a[3], (int) a[4]);
      case "lays" -> x.lays(p);
      case "book" -> x.book(p);
      case "read" -> x.read(p, q);
      case "image" -> x.image();
      case "undo" -> x.undo();
      case "tear" -> x.tear();
      case "count" -> x.count(p);
      default -> x.status(p);
    };
  }

  private static final int[] ODD = {-1, Integer.MIN_VALUE, Integer.MAX_VALUE, 41, 100, 101, 400, 401, 9999, 10000, 8, 7};

  /** An argument, mostly one that may be. */
  private static int some(Random random, int low, int high) {
    return random.nextInt(30) == 0 ? ODD[random.nextInt(ODD.length)] : low + random.nextInt(high - low + 1);
  }

  private static long[] arguments(Random random, String name, int day) {
    int part = some(random, 0, random.nextInt(8));
    int near = Math.max(0, day - 20) + random.nextInt(120);
    return switch (name) {
      case "weary" -> row(some(random, 0, 99));
      case "free" -> row(some(random, 0, 6), some(random, 0, 1));
      case "now", "status" -> row(some(random, -1, 6));
      case "part" -> row(some(random, 0, 5), near);
      case "of" -> row(part, some(random, 0, 9));
      case "set" -> set(random, part, near);
      case "turn", "as" -> row(part, some(random, 0, 5));
      case "days" -> row(some(random, 1, random.nextInt(30) == 0 ? 100 : 6));
      case "on" -> row(part, some(random, 0, random.nextBoolean() ? 400 : 20), some(random, 0, 1));
      case "then" -> row(some(random, 0, random.nextBoolean() ? 400 : 20), some(random, 0, 2));
      case "later" -> row(some(random, 1, random.nextBoolean() ? 60 : 9));
      case "bears" -> row(some(random, 1, random.nextBoolean() ? 200 : 20));
      case "feed" -> row(random.nextInt(), some(random, 1, 4));
      case "sheet" -> row(some(random, 0, 3), new int[] {0, 8, 16, 16, 16, 64, 7}[random.nextInt(7)],
          some(random, -1, random.nextBoolean() ? 8 : 41));
      case "write" -> row(some(random, 0, 3), some(random, 0, 7),
          random.nextInt(9) == 0 ? random.nextLong() : random.nextInt(60));
      case "copy" -> row(some(random, 0, 3), some(random, -1, 5), some(random, 0, 3), some(random, -1, 5),
          some(random, -1, 6));
      case "read", "book", "lays" -> row(some(random, 0, 3), part);
      case "count" -> row(some(random, 0, 3));
      default -> row(part);
    };
  }

  private static long[] set(Random random, int part, int near) {
    int what = some(random, 1, 4);
    int[] high = {9, 99, 40, 9999, 20};
    int v = some(random, 0, what >= 0 && what < 5 ? high[what] : 9);
    return row(part, what, what == 3 && random.nextInt(9) != 0 ? near : v);
  }

  private static long[] row(long... a) {
    return Arrays.copyOf(a, 5);
  }

  private static final String[] BITS = {"part", "sailor", "pet", "ghost", "admiral", "youngest", "long", "later", "free",
      "school", "weary", ";", ";", " ", "0", "1", "6", "7", "99", "100", "9999", "10000", "x", "P", "000", "pets", "\n"};

  private static String item(Random random) {
    String text = switch (random.nextInt(5)) {
      case 0 -> "free " + some(random, 0, 6);
      case 1 -> "school" + some(random, 0, 6);
      case 2 -> "weary  " + some(random, 0, 99);
      default -> NAMES.get(random.nextInt(6)) + " " + some(random, 0, 90)
          + (random.nextBoolean() ? " long " + some(random, 1, 99) : "")
          + (random.nextInt(3) == 0 ? "later " + some(random, 0, 30) + " " : "");
    };
    return random.nextInt(12) == 0 ? text + BITS[random.nextInt(BITS.length)] : text;
  }

  private static String someText(Random random) {
    StringBuilder text = new StringBuilder(item(random));
    for (int i = random.nextInt(4); i > 0; i--) {
      text.append(random.nextBoolean() ? ";" : " ; ").append(item(random));
    }
    if (random.nextInt(6) == 0) {
      text.insert(random.nextInt(text.length()), BITS[random.nextInt(BITS.length)]);
    }
    if (random.nextInt(6) == 0) {
      text.setLength(random.nextInt(text.length()));
    }
    return text.toString();
  }

  private int wrong = 0;
  private int calls = 0;
  private int end = 0;

  /** False: the answer was wrong, or the object has been used for 512 calls, behind which all answers are free. */
  private boolean same(int run, OthersShare x, Model model, String name, long[] a) {
    if (calls == end) {
      return false;
    }
    calls++;
    long due = model.call(name, a);
    long got = ask(x, name, a);
    if (got != due) {
      wrong++;
      System.out.println("run " + run + ": " + name + Arrays.toString(a) + " answered " + got + ", due is " + due);
    }
    return got == due;
  }

  private boolean typed(int run, OthersShare x, Model model, Random random) {
    String text = someText(random);
    for (int i = 0; i < text.length(); i++) {
      if (!same(run, x, model, "feed", row(text.charAt(i), 1))) {
        return false;
      }
    }
    return same(run, x, model, "nursery", row());
  }

  private void run(int run) {
    Random random = new Random(run);
    OthersShare x = new OthersShare();
    Model model = new Model();
    end = calls + 512;
    if (run % 20 == 0) {
      for (int i = 0; i < 99; i++) {
        same(run, x, model, "days", row(100));
      }
    }
    while (calls < end) {
      int day = model.house.day;
      String name = CALLS[random.nextInt(CALLS.length)];
      boolean goesOn = name.equals("feed") && random.nextInt(3) != 0
          ? typed(run, x, model, random)
          : same(run, x, model, name, arguments(random, name, day));
      if (goesOn && name.equals("book") && random.nextBoolean()) {
        goesOn = playedSheet(run, x, model, random);
      }
      if (!goesOn) {
        return;
      }
    }
  }

  /** A sheet on which stands how a part would go, to be read again. */
  private boolean playedSheet(int run, OthersShare x, Model model, Random random) {
    if (model.house.parts.isEmpty()) {
      return true;
    }
    int part = random.nextInt(model.house.parts.size());
    int n = 1 + random.nextInt(6);
    boolean goesOn = same(run, x, model, "sheet", row(0, 16, n));
    for (int i = 0; goesOn && i < n; i++) {
      goesOn = same(run, x, model, "write", row(0, i, model.house.on(i).parts.get(part).played));
    }
    return goesOn && same(run, x, model, "read", row(0, part));
  }

  public static void main(String[] args) {
    OthersShareModel test = new OthersShareModel();
    for (int run = 0; run < 300 && test.wrong < 10; run++) {
      test.run(run);
    }
    System.out.println(test.calls + " calls, " + test.wrong + " answers not as due");
    if (test.wrong != 0) {
      System.exit(1);
    }
  }
}
