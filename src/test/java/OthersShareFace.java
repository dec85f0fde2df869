import java.lang.reflect.Constructor;
import java.lang.reflect.Field;
import java.lang.reflect.Method;
import java.lang.reflect.Modifier;
import java.util.Set;
import java.util.TreeSet;

/** The public face is what the document prints, and nothing beside it is to be seen. */
public final class OthersShareFace {
  private static final String[] FACE = {
      "int weary(int)", "int free(int,int)", "int now(int)", "int part(int,int)", "int of(int,int)",
      "int set(int,int,int)", "int turn(int,int)", "int as(int,int)", "int left(int)", "int days(int)",
      "int on(int,int,int)", "int then(int,int)", "int done(int)", "int all()", "int played(int)",
      "int later(int)", "int kind(int)", "int bears(int)", "int holiday()", "int last()", "int longest(int)",
      "int due(int)", "int feed(int,int)", "int wipe()", "int nursery()", "int sheet(int,int,int)",
      "long write(int,int,long)", "int copy(int,int,int,int,int)", "int lays(int)", "int book(int)",
      "int read(int,int)", "int image()", "int undo()", "int tear()", "int count(int)", "int status(int)"};

  private static int wrong = 0;

  private static void must(boolean holds, String what) {
    if (!holds) {
      wrong++;
      System.out.println("not so: " + what);
    }
  }

  private static String signature(Method m) {
    StringBuilder text = new StringBuilder(m.getReturnType().getName() + " " + m.getName() + "(");
    for (int i = 0; i < m.getParameterCount(); i++) {
      text.append(i == 0 ? "" : ",").append(m.getParameterTypes()[i].getName());
    }
    return text.append(")").toString();
  }

  private static void checkMethods() {
    Set<String> due = new TreeSet<>(Set.of(FACE));
    Set<String> seen = new TreeSet<>();
    Set<String> names = new TreeSet<>();
    for (Method m : OthersShare.class.getDeclaredMethods()) {
      if (Modifier.isPublic(m.getModifiers())) {
        seen.add(signature(m));
        names.add(m.getName());
        must(!Modifier.isStatic(m.getModifiers()), m + " is no static one");
      }
    }
    must(seen.equals(due), "the public methods are " + due + ", but they are " + seen);
    for (Method m : OthersShare.class.getDeclaredMethods()) {
      if (!Modifier.isPublic(m.getModifiers())) {
        must(Modifier.isPrivate(m.getModifiers()), m + " is private");
        must(!names.contains(m.getName()), m + " bears no public name");
      }
    }
  }

  public static void main(String[] args) {
    Class<?> c = OthersShare.class;
    must(Modifier.isFinal(c.getModifiers()) && Modifier.isPublic(c.getModifiers()), "public and final");
    must(c.getSuperclass() == Object.class && c.getInterfaces().length == 0, "under nothing");
    checkMethods();
    Constructor<?>[] constructors = c.getDeclaredConstructors();
    must(constructors.length == 1 && constructors[0].getParameterCount() == 0
        && Modifier.isPublic(constructors[0].getModifiers()), "one public constructor");
    for (Field f : c.getDeclaredFields()) {
      must(Modifier.isPrivate(f.getModifiers()), f + " is private");
      must(!Modifier.isStatic(f.getModifiers()) || Modifier.isFinal(f.getModifiers()), f + " is final");
    }
    for (Class<?> inner : c.getDeclaredClasses()) {
      must(Modifier.isStatic(inner.getModifiers()) && !Modifier.isPublic(inner.getModifiers()),
          inner + " is static and not public");
    }
    System.out.println(wrong == 0 ? "the face is the document's" : wrong + " faults of the face");
    if (wrong != 0) {
      System.exit(1);
    }
  }
}
