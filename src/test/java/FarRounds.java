import java.lang.reflect.Constructor;
import java.lang.reflect.Field;
import java.lang.reflect.Method;

/**
 * A moor has 680 turfs at most, and no row of so many was found that goes further than some 1,160 steps. So
 * the bound of 2,000 is looked at inside the class: by law 2 a heap of n goes n - 1 steps to heaps of one.
 */
final class FarRounds {
  private FarRounds() {}

  private static Object made(String name) throws ReflectiveOperationException {
    Constructor<?> constructor = Class.forName("TurfHeaps$" + name).getDeclaredConstructor();
    constructor.setAccessible(true);
    return constructor.newInstance();
  }

  private static void call(Object on, String name, Class<?>[] types, Object... values) throws ReflectiveOperationException {
    Method method = on.getClass().getDeclaredMethod(name, types);
    method.setAccessible(true);
    method.invoke(on, values);
  }

  private static int field(Object on, String name) throws ReflectiveOperationException {
    Field field = on.getClass().getDeclaredField(name);
    field.setAccessible(true);
    return field.getInt(on);
  }

  /** Tail, length, most heaps on the ring and the steps to a stair, of one heap by law 2. */
  static int[] of(int turfs) {
    try {
      Object row = made("Row");
      Object round = made("Round");
      call(row, "lay", new Class<?>[] {int.class}, turfs);
      call(round, "follow", new Class<?>[] {row.getClass(), int.class}, row, 2);
      return new int[] {field(round, "steps"), field(round, "turn"), field(round, "mostHeaps"), field(round, "firstStair")};
    } catch (ReflectiveOperationException e) {
      throw new IllegalStateException(e);
    }
  }
}
