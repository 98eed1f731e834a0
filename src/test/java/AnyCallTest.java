import java.lang.reflect.InvocationTargetException;
import java.lang.reflect.Method;
import java.util.NoSuchElementException;
import java.util.Random;

/** Any call with any numbers in any state: nothing is thrown but what person() may throw. */
public final class AnyCallTest {
  private static final Kit KIT = new Kit("AnyCallTest");
  private static final int[] EDGES = {Integer.MIN_VALUE, Integer.MIN_VALUE + 1, -1000, -3, -2, -1, 10, 11, 12, 13, 24, 31,
      32, 33, 50, 64, 99, 100, 999, 1000, 4095, 4096, 9999, 10000, 65536, 1 << 30, Integer.MAX_VALUE};

  public static void main(String[] args) throws Exception {
    Random random = new Random(5);
    for (int run = 0; run < 300; run++) {
      RopeLedger x = new RopeLedger();
      if (run % 10 != 0) {
        Kit.tell(x, Texts.sound(random));
      }
      oneRun(x, random);
    }
    KIT.end();
  }

  private static void oneRun(RopeLedger x, Random random) throws Exception {
    Method[] methods = RopeLedger.class.getDeclaredMethods();
    int calls = 0;
    while (calls < 400) {
      Method method = methods[random.nextInt(methods.length)];
      boolean rare = method.getName().equals("text") && random.nextInt(10) != 0;
      if (!java.lang.reflect.Modifier.isPublic(method.getModifiers()) || rare) {
        continue;
      }
      calls++;
      call(x, method, random);
    }
  }

  private static void call(RopeLedger x, Method method, Random random) throws Exception {
    Class<?>[] types = method.getParameterTypes();
    Object[] given = new Object[types.length];
    StringBuilder told = new StringBuilder(method.getName());
    for (int i = 0; i < types.length; i++) {
      given[i] = types[i] == boolean.class ? (Object) random.nextBoolean() : (Object) anyNumber(random);
      told.append(' ').append(given[i]);
    }
    try {
      method.invoke(x, given);
    } catch (InvocationTargetException e) {
      Throwable thrown = e.getCause();
      boolean may = method.getName().equals("person")
          && (thrown.getClass() == IndexOutOfBoundsException.class || thrown.getClass() == NoSuchElementException.class);
      KIT.due(told + " threw " + thrown, may, true);
    }
  }

  private static int anyNumber(Random random) {
    int kind = random.nextInt(10);
    if (kind == 0) {
      return random.nextInt();
    }
    return kind == 1 ? EDGES[random.nextInt(EDGES.length)] : kind < 4 ? random.nextInt(101) : random.nextInt(9);
  }
}
