import java.util.ArrayList;
import java.util.HashMap;
import java.util.List;
import java.util.Map;
import java.util.Set;
import java.util.TreeSet;

/** The rules of LANGUAGE.md that can be read off what the compiler made of the class: calls, objects, divisors, depths. */
public final class CompiledTest {
  private static final Kit KIT = new Kit("CompiledTest");
  private static final int DEEPEST = 8;
  private static final int LONGEST = 60;
  private static final String PERSON = "RopeLedger.person(II)I";
  private static final String RECURSIVE = "RopeLedger$Payments.payRest(LRopeLedger$Bridge;II)Z";
  /** Of rule 4's library all that the class uses; the two exceptions are those of person(). */
  private static final Set<String> LIBRARY = Set.of("java/lang/Object.<init>()V", "java/lang/String.length()I", "java/lang/String.charAt(I)C",
      "java/lang/System.arraycopy(Ljava/lang/Object;ILjava/lang/Object;II)V", "java/lang/Integer.bitCount(I)I", "java/lang/Math.min(II)I",
      "java/lang/Math.max(II)I", "java/lang/IndexOutOfBoundsException.<init>(Ljava/lang/String;)V",
      "java/util/NoSuchElementException.<init>(Ljava/lang/String;)V");
  /** Where a divisor isn't a constant: each of these looks at it first. */
  private static final Set<String> DIVIDING = Set.of("RopeLedger.sagOf(II)I", "RopeLedger$Laws.joined(IJJ)J", "RopeLedger.befall(J)J");

  private static final Map<String, Compiled.Code> CODES = new HashMap<>();
  private static final Map<String, Integer> DEPTHS = new HashMap<>();

  public static void main(String[] args) throws Exception {
    List<Class<?>> types = new ArrayList<>(List.of(RopeLedger.class.getDeclaredClasses()));
    types.add(RopeLedger.class);
    for (Class<?> type : types) {
      for (Compiled.Code code : Compiled.of(type)) {
        CODES.put(code.name, code);
      }
    }
    KIT.due("methods were read", CODES.size() > 100 && CODES.containsKey(PERSON) && CODES.containsKey(RECURSIVE), true);
    for (Compiled.Code code : CODES.values()) {
      KIT.due("lines of " + code.name, code.lines <= LONGEST, true);
      KIT.due("catches of " + code.name, code.handlers, 0);
      KIT.due("static initialiser " + code.name, code.name.contains("<clinit>"), false);
      library(code);
      made(code);
      divisors(code);
      depth(code.name, new ArrayList<>());
    }
    int deepest = 0;
    for (int depth : DEPTHS.values()) {
      deepest = Math.max(deepest, depth);
    }
    KIT.due("the deepest call stands in " + deepest, deepest <= DEEPEST, true);
    KIT.end();
  }

  /** Rule 4: the library; rule 6: nothing is thrown but by person(). */
  private static void library(Compiled.Code code) {
    for (String whom : code.whom) {
      boolean own = whom.isEmpty() || whom.startsWith("RopeLedger");
      boolean exception = whom.contains("Exception");
      KIT.due(code.name + " calls " + whom, own || exception || LIBRARY.contains(whom), true);
      KIT.due(code.name + " has " + whom, exception && !code.name.equals(PERSON), false);
    }
    KIT.due(code.name + " throws", code.deeds.contains(Compiled.THROWS), code.name.equals(PERSON));
    // interfaces, lambdas, casts, instanceof, locks
    int[] unused = {185, 186, 192, 193, 194, 195, Compiled.MAKES_MANY};
    for (int deed : unused) {
      KIT.due(code.name + " does " + deed, code.deeds.contains(deed), false);
    }
  }

  /** One room for all calls: rows are made in constructors, and calls make nothing but what person() throws. */
  private static void made(Compiled.Code code) {
    boolean constructor = code.name.contains(".<init>(");
    for (int deed : code.deeds) {
      boolean makes = deed == Compiled.MAKES || deed == Compiled.MAKES_NUMBERS || deed == Compiled.MAKES_REFERENCES;
      KIT.due(code.name + " makes something", makes && !constructor && !code.name.equals(PERSON), false);
    }
  }

  /** Rule 7: a divisor is a constant that isn't 0, or one that is looked at. */
  private static void divisors(Compiled.Code code) {
    Set<Integer> divides = Set.of(Compiled.DIVIDES_INTS, Compiled.DIVIDES_LONGS, Compiled.RESTS_OF_INTS, Compiled.RESTS_OF_LONGS);
    for (int i = 1; i < code.deeds.size(); i++) {
      if (divides.contains(code.deeds.get(i))) {
        int ahead = code.deeds.get(i - 1);
        // 3 and 9 are the constants 0
        boolean constant = ahead >= 2 && ahead <= 20 && ahead != 3 && ahead != 9;
        KIT.due(code.name + " divides by what may be 0", constant || DIVIDING.contains(code.name), true);
      }
    }
  }

  /** Rules 8 and 11: how many methods stand open at most, the library's among them; a recursion counts once. */
  private static int depth(String name, List<String> open) {
    Integer known = DEPTHS.get(name);
    if (known != null) {
      return known;
    }
    Compiled.Code code = CODES.get(name);
    KIT.due("a circle of calls by " + open + " to " + name, open.contains(name), false);
    int deepest = 0;
    if (code != null && !open.contains(name)) {
      open.add(name);
      Set<String> called = new TreeSet<>();
      for (int i = 0; i < code.deeds.size(); i++) {
        boolean calls = code.deeds.get(i) >= Compiled.CALLS_FIRST && code.deeds.get(i) <= Compiled.CALLS_LAST;
        if (calls && !(name.equals(RECURSIVE) && code.whom.get(i).equals(RECURSIVE))) {
          called.add(code.whom.get(i));
        }
      }
      for (String other : called) {
        deepest = Math.max(deepest, depth(other, open));
      }
      open.remove(name);
    }
    DEPTHS.put(name, deepest + 1);
    return deepest + 1;
  }
}
