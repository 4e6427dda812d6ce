import java.lang.reflect.Constructor;
import java.lang.reflect.Field;
import java.lang.reflect.Method;
import java.lang.reflect.Modifier;
import java.util.HashSet;
import java.util.Set;
import java.util.TreeSet;

/** The document's public face, and nothing beside it. */
public final class FaceTest {
  private static final String FACE = "feed(iiiii) end(i) moor() fault(i) told(i) cart(ii) heaps(i) heap(ii) all(i) many(ii) sorts(i)"
      + " spread(i) odd(i) taken(i) gone(i) most() peak() same(i) still() rows() stair(i) stairs() square(i) flip(ii) even(i)"
      + " above(ii) tail(i) length(i) ring(i) later(iii) soon(i) rowsOf(i) ringed(i) rings(i) gardens(i) longest(i) ahead(i)"
      + " from(ii) way(i) bring(ii) latest(i) spare() heights(ii) least(ii) greatest(ii) ask(ii) leaves(ii) laws(i) by(i) law()"
      + " worth(i) share(ii) wins(ii) moves(ii) move(ii) rests(ii) gets(iiiii) chance(iii)l mean(ii)l brings(ii) away(i) undo()"
      + " anew() drawn(ii) luck(iii) rate(ii) count(i) image(i) back(i) row(iii) write(iil) paste(iiiii)";

  private static int wrong = 0;

  private static void holds(boolean so, String what) {
    if (!so) {
      wrong++;
      System.out.println("not so: " + what);
    }
  }

  private static String told(Method m) {
    StringBuilder s = new StringBuilder(m.getName()).append('(');
    for (Class<?> type : m.getParameterTypes()) s.append(type.getName().charAt(0));
    return s.append(')').append(m.getReturnType() == long.class ? "l" : m.getReturnType() == int.class ? "" : "?").toString();
  }

  public static void main(String[] args) {
    Set<String> due = new TreeSet<>(Set.of(FACE.split(" ")));
    Set<String> there = new TreeSet<>();
    Set<String> names = new HashSet<>();
    Class<?> face = TurfHeaps.class;
    for (Method m : face.getDeclaredMethods()) {
      if (Modifier.isPublic(m.getModifiers())) {
        there.add(told(m));
        names.add(m.getName());
      }
    }
    holds(due.size() == 72, "the document has 72 methods");
    holds(due.equals(there), "the public methods are the document's: " + there);
    holds(Modifier.isFinal(face.getModifiers()) && Modifier.isPublic(face.getModifiers()), "the class is public and final");
    for (Method m : face.getDeclaredMethods()) {
      boolean open = Modifier.isPublic(m.getModifiers());
      holds(open || Modifier.isPrivate(m.getModifiers()), m + " is private");
      holds(open || !names.contains(m.getName()), m + " bears no public method's name");
      holds(m.getParameterCount() <= 7, m + " takes seven at most");
    }
    for (Constructor<?> c : face.getDeclaredConstructors()) {
      holds(Modifier.isPublic(c.getModifiers()) && c.getParameterCount() == 0, c + " is the document's");
    }
    for (Field f : face.getDeclaredFields()) {
      holds(f.getName().equals("NONE") == Modifier.isPublic(f.getModifiers()), f + " is private, but for NONE");
      holds(Modifier.isPrivate(f.getModifiers()) || Modifier.isPublic(f.getModifiers()), f + " is not package-visible");
    }
    inside(face, names);
    System.out.println(wrong == 0 ? "the face is the document's" : wrong + " things are not so");
    if (wrong != 0) System.exit(1);
  }

  private static void inside(Class<?> face, Set<String> names) {
    holds(face.getDeclaredClasses().length <= 11, "twelve classes at most");
    for (Class<?> c : face.getDeclaredClasses()) {
      holds(Modifier.isStatic(c.getModifiers()) && Modifier.isPrivate(c.getModifiers()), c + " is private and static");
      int fields = 0;
      for (Field f : c.getDeclaredFields()) if (!Modifier.isStatic(f.getModifiers())) fields++;
      holds(fields <= 20, c + " has twenty fields at most");
      for (Method m : c.getDeclaredMethods()) holds(!names.contains(m.getName()), m + " bears no public method's name");
    }
  }
}
