import java.lang.reflect.Method;
import java.util.ArrayList;
import java.util.List;
import java.util.Random;

/** Random runs of calls, each answered by the class and by the model. */
public final class ModelTest {
  private static final Kit KIT = new Kit("ModelTest");
  /** Calls by how often they come; those that the model answers slowly come less often. */
  private static final String[] OFTEN = ("person person strand strand strand crossing law law bears bears sag tie tie forgive pay pay"
      + " twist twist cross cross years years order order order drop loan strike strike twists partner life ahead see see see"
      + " strikes known painted tells rests rest rest chance tried tried tried undo undo keep back count count count named"
      + " fault").split(" ");

  public static void main(String[] args) throws Exception {
    int runs = args.length > 0 ? Integer.parseInt(args[0]) : 250;
    Random random = new Random(args.length > 1 ? Long.parseLong(args[1]) : 11);
    for (int run = 0; run < runs; run++) {
      oneRun(random);
    }
    for (int i = 0; i < 20 * runs; i++) {
      oneText(random);
    }
    KIT.end();
  }

  private static void oneText(Random random) {
    String text = Texts.changed(random);
    RopeLedger x = new RopeLedger();
    Model model = new Model();
    tell(x, model, text);
    KIT.due("fault(0) of " + text, x.fault(0), model.fault(0));
    KIT.due("fault(1) of " + text, x.fault(1), model.fault(1));
  }

  private static void tell(RopeLedger x, Model model, String text) {
    for (int i = 0; i < text.length(); i += 20) {
      int[] n = new int[5];
      for (int j = 0; j < 5; j++) {
        n[j] = Kit.four(text, i + 4 * j);
      }
      KIT.due("feed", x.feed(n[0], n[1], n[2], n[3], n[4]), model.feed(n[0], n[1], n[2], n[3], n[4]));
    }
    KIT.due("text of " + text, x.text(text.length()), model.text(text.length()));
  }

  private static void oneRun(Random random) throws Exception {
    RopeLedger x = new RopeLedger();
    Model model = new Model();
    List<String> told = new ArrayList<>();
    for (int i = 0; i < 150; i++) {
      if (i % 70 == 0) {
        String text = Texts.sound(random);
        tell(x, model, text);
        told.add(text);
      }
      String name = OFTEN[random.nextInt(OFTEN.length)];
      Object[] given = given(name, x, random);
      long got = answer(x, name, given);
      long want = answer(model, name, given);
      told.add(name + java.util.Arrays.toString(given) + " = " + want);
      if (got != want) {
        told.forEach(System.out::println);
        KIT.due(name + java.util.Arrays.toString(given), got, want);
        return;
      }
    }
  }

  private static long answer(Object x, String name, Object[] given) throws Exception {
    if (name.equals("person") && x instanceof RopeLedger) {
      return Kit.person((RopeLedger) x, (Integer) given[0], (Integer) given[1]);
    }
    for (Method method : x.getClass().getDeclaredMethods()) {
      boolean open = x instanceof Model || java.lang.reflect.Modifier.isPublic(method.getModifiers());
      if (open && method.getName().equals(name) && method.getParameterCount() == given.length) {
        Object answered = method.invoke(x, given);
        return answered instanceof Boolean ? ((Boolean) answered ? 1 : 0) : ((Number) answered).longValue();
      }
    }
    throw new IllegalStateException(name);
  }

  private static Object[] given(String name, RopeLedger x, Random random) {
    switch (name) {
      case "person": return row(few(random, 6), few(random, 6));
      case "strand": return row(few(random, 12), few(random, 9));
      case "crossing": return row(few(random, 8), few(random, 4));
      case "law": return row(few(random, 3), few(random, 12));
      case "sag": return row(few(random, 999));
      case "tie": return row(few(random, 5), few(random, 5), few(random, random.nextBoolean() ? 50 : 999), few(random, 99));
      case "forgive": case "pay": case "life": return row(few(random, 12));
      case "twist": return row(few(random, 12), few(random, 12));
      case "cross": return row(few(random, 6), few(random, 99));
      case "years": return row(random.nextInt(8) == 0 ? few(random, 99) : few(random, 3));
      case "order": return orderRow(x, random);
      case "drop": case "loan": return row(load(x, random));
      case "strike": return row(few(random, 6), few(random, 6));
      case "twists": return row(few(random, 5));
      case "partner": return row(few(random, 5), few(random, 12));
      case "ahead": return row(few(random, random.nextBoolean() ? 8 : 99));
      case "see": return seeRow(x, random);
      case "strikes": case "known": return row(few(random, Math.max(1, x.count(13))));
      case "tells": return row(few(random, 2));
      case "rests": return row(few(random, 300));
      case "rest": return row(few(random, 300), few(random, 4));
      case "chance": return row(random.nextInt(4) == 0 ? random.nextInt() : random.nextInt(99999), few(random, 30), load(x, random));
      case "tried": return triedRow(random);
      case "count": case "fault": return row(few(random, 16));
      case "named": return row(Kit.letters(new String[] {"a", "b", "carl", "dddddd", "ab", "z", "y"}[random.nextInt(7)]));
      default: return row();
    }
  }

  private static Object[] row(Object... given) {
    return given;
  }

  /** Mostly 0 to most, at times one beyond. */
  private static int few(Random random, int most) {
    return random.nextInt(25) == 0 ? (random.nextBoolean() ? -1 : most + 1) : random.nextInt(most + 1);
  }

  private static int load(RopeLedger x, Random random) {
    return random.nextInt(20) == 0 ? few(random, 9999) : few(random, x.bears() + 60);
  }

  private static Object[] orderRow(RopeLedger x, Random random) {
    int there = 0;
    for (int i = 0; i < 12; i++) {
      there |= x.strand(i, 5) == 0 ? 1 << i : 0;
    }
    int wanted = random.nextInt(10) == 0 ? few(random, 1 << x.count(1)) : there & random.nextInt(4096);
    while (Integer.bitCount(wanted) > 6) {
      wanted &= random.nextInt(4096);
    }
    return row(wanted, random.nextInt(3) == 0 ? few(random, 9999) : random.nextInt(x.bears() + 2), few(random, 4));
  }

  private static Object[] seeRow(RopeLedger x, Random random) {
    int load = few(random, 999);
    int sag = Math.max(0, x.sag(Math.max(1, Math.min(999, load))) + random.nextInt(21) - 10);
    return row(random.nextInt(3) == 0 ? few(random, 50) : few(random, 3), load, sag, random.nextInt(3) != 0);
  }

  private static Object[] triedRow(Random random) {
    int what = few(random, 4);
    return row(what, what == 2 ? few(random, 12) : random.nextInt(15) == 0 ? few(random, 12) : 0, few(random, random.nextBoolean() ? 5 : 50));
  }
}
