import java.lang.reflect.Array;
import java.lang.reflect.Field;
import java.lang.reflect.Method;
import java.lang.reflect.Modifier;
import java.util.ArrayList;
import java.util.IdentityHashMap;
import java.util.List;
import java.util.Map;
import java.util.Random;

/**
 * How much room an object takes, that no call makes it more, and that no call fails: any numbers in any
 * state, the greatest moor among them.
 */
public final class RoomTest {
  private static int wrong = 0;

  private static void holds(boolean so, String what) {
    if (!so) {
      wrong++;
      System.out.println("not so: " + what);
    }
  }

  /** Objects, and fields and elements, that can be come to from one. */
  private static long[] room(Object root) throws ReflectiveOperationException {
    Map<Object, Boolean> seen = new IdentityHashMap<>();
    List<Object> open = new ArrayList<>(List.of(root));
    long cells = 0;
    while (!open.isEmpty()) {
      Object o = open.remove(open.size() - 1);
      if (seen.put(o, true) != null) continue;
      if (o.getClass().isArray()) {
        cells += Array.getLength(o);
        if (!o.getClass().getComponentType().isPrimitive()) {
          for (int i = 0; i < Array.getLength(o); i++) if (Array.get(o, i) != null) open.add(Array.get(o, i));
        }
        continue;
      }
      for (Field f : o.getClass().getDeclaredFields()) {
        if (Modifier.isStatic(f.getModifiers())) continue;
        cells++;
        f.setAccessible(true);
        if (!f.getType().isPrimitive() && f.get(o) != null) open.add(f.get(o));
      }
    }
    return new long[] {seen.size(), cells};
  }

  static void put(TurfHeaps x, String text) {
    x.end(0);
    for (int p = 0; p < text.length(); p += 20) {
      int[] v = new int[5];
      for (int j = 0; j < 20; j++) v[j / 4] = v[j / 4] << 8 | (p + j < text.length() ? text.charAt(p + j) : ' ');
      x.feed(v[0], v[1], v[2], v[3], v[4]);
    }
    x.end(text.length());
  }

  private static TurfHeaps greatest(int law) {
    TurfHeaps x = new TurfHeaps();
    put(x, "moor days 16 law " + law + " odds 5;" + "heap of 20;".repeat(8) + "cart of 20 at 0;".repeat(6));
    holds(x.moor() == 15, "the greatest moor is told");
    for (int a = 0; a < 20; a++) x.brings(20, 0);
    holds(x.all(0) == 680, "the greatest moor has 680 turfs");
    return x;
  }

  private static void greatestMoors() {
    int[] turfs = {0, 0, 1, 0};
    for (int law = 0; law < 4; law++) {
      TurfHeaps x = greatest(law);
      for (int d = 0; d <= 16; d++) {
        holds(x.all(d) == 680, "no turf is lost by law " + law);
        holds(x.tail(d) >= 0 && x.length(d) >= 1 && x.tail(d) + x.length(d) <= 2000, "it goes round by law " + law);
      }
      holds(turfs[law] == 0 || x.ring(0) == 680, "by law 2 all ends as heaps of one");
      int left = 0;
      for (int i = 0; i < 700; i++) left += Math.max(0, x.later(16, 500, i));
      holds(left == 680, "no turf is lost by 500 steps of law " + law);
      holds(x.bring(0, 30) >= -1 && x.share(5, 1) >= 1 && x.chance(7, 30, 1) >= 1 && x.luck(0, 20, 20) >= 0, "all can be asked");
    }
  }

  private static Object wild(Random random, Class<?> type) {
    long[] odd = {Integer.MIN_VALUE, Integer.MAX_VALUE, -1, 0, 1, 2, 3, 15, 16, 20, 60, 500, 700};
    long v = random.nextInt(3) > 0 ? random.nextInt(8) : random.nextInt(4) > 0 ? odd[random.nextInt(odd.length)] : random.nextInt();
    return type == long.class ? (Object) v : (Object) (int) v;
  }

  private static void wildCalls(List<Method> face) throws ReflectiveOperationException {
    Random random = new Random(7);
    for (int run = 0; run < 300; run++) {
      TurfHeaps x = run % 3 == 0 ? new TurfHeaps() : greatest(run % 4);
      for (int c = 0; c < 480; c++) {
        Method m = face.get(random.nextInt(face.size()));
        Object[] values = new Object[m.getParameterCount()];
        for (int i = 0; i < values.length; i++) values[i] = wild(random, m.getParameterTypes()[i]);
        try {
          m.invoke(x, values);
        } catch (java.lang.reflect.InvocationTargetException e) {
          holds(false, m.getName() + java.util.Arrays.toString(values) + " ends: " + e.getCause());
        }
      }
    }
  }

  private static long made() {
    return ((com.sun.management.ThreadMXBean) java.lang.management.ManagementFactory.getThreadMXBean()).getCurrentThreadAllocatedBytes();
  }

  private static long dearCalls(TurfHeaps x) {
    long sum = 0;
    for (int d = 0; d < 8; d++) {
      sum += x.tail(d) + x.later(d, 500, 1) + x.chance(d, 5, 0) + x.mean(d, 1) + x.share(d % 6, 0) + x.rests(0, 1);
      sum += x.longest(d + 7) + x.bring(d, 30) + x.latest(30) + x.luck(d, 20, 5) + x.moves(d, 3) + x.heights(0, d) + x.ask(0, d);
      sum += x.moor() + x.image(1) + x.back(1) + x.away(d) + x.undo() + x.row(0, 1, 3) + x.laws(0) + x.gardens(d);
    }
    return sum;
  }

  private static void callsMakeNothing() {
    TurfHeaps x = greatest(0);
    TurfHeaps y = greatest(0);
    put(x, "moor days 16 law 3 odds 5;" + "heap of 20;".repeat(8) + "cart of 20 at 0;".repeat(6) + "?");
    made();
    dearCalls(y);
    long before = made();
    dearCalls(x);
    long after = made();
    holds(after - before < 1000, "calls make nothing: " + (after - before) + " bytes");
  }

  public static void main(String[] args) throws ReflectiveOperationException {
    List<Method> face = new ArrayList<>();
    for (Method m : TurfHeaps.class.getDeclaredMethods()) if (Modifier.isPublic(m.getModifiers())) face.add(m);
    face.sort((a, b) -> a.getName().compareTo(b.getName()));
    long[] room = room(new TurfHeaps());
    System.out.println("an object: " + room[0] + " objects and arrays, " + room[1] + " fields and elements");
    holds(room[0] < 300 && room[1] < 10000, "an object takes little room");
    greatestMoors();
    wildCalls(face);
    callsMakeNothing();
    System.out.println(wrong == 0 ? "room and calls are as due" : wrong + " things are not so");
    if (wrong != 0) System.exit(1);
  }
}
