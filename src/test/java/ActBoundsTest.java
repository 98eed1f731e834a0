/** Bounds of a year (part 2) and of promises 12 to 17: at each, just within it and just beyond it. */
public final class ActBoundsTest {
  private static final Kit KIT = new Kit("ActBoundsTest");
  private static final String TWO = "person a east 50 10;person b west 30 20;";
  private static final String FOUR = TWO + "person c east 7 8;debt a b 10 0 99;debt b a 20 0 99;debt a b 30 98 99;debt c b 7 0 99;twist 0 1;";
  private static final int[] FAR = {Integer.MIN_VALUE, -1000, 1 << 20, Integer.MAX_VALUE};

  public static void main(String[] args) {
    tyingRefused();
    tyingAtBounds();
    tyingTwelve();
    tyingBySides();
    forgivingBounds();
    payingBounds();
    twistingRefused();
    twistingOthers();
    twistingWhatIsGone();
    crossingRefused();
    crossingAtBounds();
    yearsRefused();
    yearsBehind999();
    crossingsOfAYear();
    crossingsOfTheirYear();
    frayingByLaw();
    frayingTo100();
    rentByLaw();
    rentTo9999();
    payingWhenDue();
    payingByPurses();
    KIT.end();
  }

  /** "NONE: no such ones, of one SIDE, there are 12." A call that is refused changes nothing. */
  private static void tyingRefused() {
    KIT.due("nobody is told", new RopeLedger().tie(0, 1, 5, 5), -1);
    RopeLedger x = KIT.sound(FOUR);
    x.forgive(1);
    String before = Kit.all(x);
    int[][] rows = {{-1, 1, 5, 5}, {3, 1, 5, 5}, {0, -1, 5, 5}, {0, 3, 5, 5}, {0, 0, 5, 5}, {1, 1, 5, 5}, {0, 2, 5, 5}, {2, 0, 5, 5},
        {0, 1, 0, 5}, {0, 1, -1, 5}, {0, 1, 1000, 5}, {0, 1, 1001, 5}, {0, 1, 5, -1}, {0, 1, 5, 100}, {0, 1, 5, 101}, {3, 3, 0, -1}};
    for (int[] row : rows) {
      KIT.due("tie" + java.util.Arrays.toString(row), x.tie(row[0], row[1], row[2], row[3]), -1);
    }
    for (int far : FAR) {
      KIT.due("from " + far, x.tie(far, 1, 5, 5), -1);
      KIT.due("to " + far, x.tie(0, far, 5, 5), -1);
      KIT.due("owed " + far, x.tie(0, 1, far, 5), -1);
      KIT.due("due " + far, x.tie(0, 1, 5, far), -1);
    }
    KIT.stays("tie() that is refused", Kit.all(x), before);
    KIT.due("forgiving is the latest", x.undo(), 0);
  }

  /** "OWED 1 .. 999, DUE YEAR 0 .. 99; not FRAYED". */
  private static void tyingAtBounds() {
    int[][] rows = {{1, 0}, {2, 1}, {998, 98}, {999, 99}};
    RopeLedger x = KIT.sound(TWO + "debt a b 9 9 9 painted;");
    x.years(1);
    for (int i = 0; i < rows.length; i++) {
      KIT.due("tie", x.tie(i % 2, 1 - i % 2, rows[i][0], rows[i][1]), i + 1);
      int[] want = {i % 2, 1 - i % 2, rows[i][0], 0, rows[i][1], 0, rows[i][0], -1, 1};
      for (int what = 0; what < 9; what++) {
        KIT.due("strand(" + (i + 1) + ", " + what + ")", x.strand(i + 1, what), want[what]);
      }
      KIT.due("can be undone", x.count(15), i + 1);
    }
    KIT.due("ever", x.count(1), 5);
    KIT.due("in year 999", lateTie(), 0);
  }

  private static int lateTie() {
    RopeLedger x = KIT.sound(TWO);
    for (int i = 0; i < 10; i++) {
      x.years(99);
    }
    x.years(9);
    int number = x.tie(0, 1, 5, 0);
    KIT.due("the year it was tied", x.strand(0, 8), 999);
    return number;
  }

  private static void tyingTwelve() {
    RopeLedger x = KIT.sound(TWO);
    for (int i = 0; i < 12; i++) {
      KIT.due("tie", x.tie(0, 1, 1 + i, 9), i);
    }
    KIT.due("a thirteenth", x.tie(0, 1, 1, 9), -1);
    KIT.due("twelve", x.count(1), 12);
    KIT.due("twelve can be undone", x.count(15), 12);
    x.forgive(3);
    x.pay(4);
    KIT.due("there were twelve", x.tie(0, 1, 1, 9), -1);
    x.undo();
    x.undo();
    KIT.due("still twelve", x.tie(0, 1, 1, 9), -1);
    KIT.due("eleven", x.undo(), 11);
    KIT.due("the twelfth again", x.tie(0, 1, 77, 9), 11);
    KIT.due("its own", x.strand(11, 2), 77);
    RopeLedger y = KIT.sound(TWO + "debt a b 1 0 0;".repeat(10));
    KIT.due("an eleventh", y.tie(0, 1, 1, 9), 10);
    KIT.due("a twelfth", y.tie(0, 1, 1, 9), 11);
    KIT.due("a thirteenth", y.tie(0, 1, 1, 9), -1);
  }

  /** "of one SIDE": the own one, wherever they stand now. */
  private static void tyingBySides() {
    RopeLedger x = KIT.sound(TWO + "person c east 7 8;plank 99;");
    x.cross(0, 0);
    KIT.due("a stands west", Kit.person(x, 0, 3), 1);
    KIT.due("a is of the east still", x.tie(0, 2, 5, 5), -1);
    KIT.due("a owes b", x.tie(0, 1, 5, 5), 0);
    KIT.due("b owes a", x.tie(1, 0, 5, 5), 1);
    KIT.due("b owes c", x.tie(1, 2, 5, 5), 2);
  }

  /** "true; false: no such one, it isn't there." */
  private static void forgivingBounds() {
    KIT.due("of none", new RopeLedger().forgive(0), false);
    RopeLedger x = KIT.sound(FOUR);
    x.years(1);
    x.pay(0);
    x.forgive(1);
    String before = Kit.all(x);
    int[] none = {-1, 4, 5, 12, 0, 1, 2, Integer.MIN_VALUE, Integer.MAX_VALUE};
    for (int i : none) {
      KIT.due("forgive(" + i + ")", x.forgive(i), false);
    }
    KIT.stays("forgive() that is refused", Kit.all(x), before);
    KIT.due("the last one", x.forgive(3), true);
    KIT.due("it is forgiven", x.strand(3, 5), 2);
    KIT.due("not once more", x.forgive(3), false);
    RopeLedger y = KIT.sound(FOUR);
    KIT.due("the first one", y.forgive(0), true);
    KIT.due("a purse stays", Kit.person(y, 0, 0), 50);
    KIT.due("a purse stays", Kit.person(y, 1, 0), 30);
    KIT.due("a painted one, too", KIT.sound(TWO + "debt a b 1 0 0 painted;").forgive(0), true);
    KIT.due("one that can't be paid, too", KIT.sound(TWO + "debt a b 999 0 0;").forgive(0), true);
  }

  /** "true; false: no such one, it isn't there, PURSE is less." */
  private static void payingBounds() {
    KIT.due("of none", new RopeLedger().pay(0), false);
    RopeLedger x = KIT.sound(TWO + "debt a b 49 0 99;debt a b 50 0 99;debt a b 51 0 99;debt b a 1 98 99;debt b a 1 0 99;");
    KIT.due("51 of 50", x.pay(2), false);
    KIT.due("nothing is done", x.count(15), 0);
    KIT.due("50 of 50", x.pay(1), true);
    KIT.due("purse", Kit.person(x, 0, 0), 0);
    KIT.due("purse", Kit.person(x, 1, 0), 80);
    x.undo();
    KIT.due("49 of 50", x.pay(0), true);
    KIT.due("purse", Kit.person(x, 0, 0), 1);
    KIT.due("purse", Kit.person(x, 1, 0), 79);
    KIT.due("bears 50, 51 and 1, of which 98 frayed, and 1", x.bears(), 103);
    x.forgive(4);
    x.years(1);
    String before = Kit.all(x);
    int[] none = {-1, 5, 12, 0, 1, 2, 3, 4, Integer.MIN_VALUE, Integer.MAX_VALUE};
    for (int i : none) {
      KIT.due("pay(" + i + ")", x.pay(i), false);
    }
    KIT.stays("pay() that is refused", Kit.all(x), before);
    KIT.due("a painted one is paid, too", KIT.sound(TWO + "debt a b 1 0 0 painted;").pay(0), true);
    RopeLedger rich = KIT.sound("person a east 999 1;person b west 999 1;debt a b 999 0 99;debt b a 999 0 99;debt b a 999 0 99;");
    rich.pay(0);
    KIT.due("a purse above 999", Kit.person(rich, 1, 0), 1998);
    KIT.due("it pays", rich.pay(1), true);
    KIT.due("it pays", rich.pay(2), true);
    KIT.due("a purse above 999", Kit.person(rich, 0, 0), 1998);
  }

  /** "false: no such ones, not there, it is so." */
  private static void twistingRefused() {
    KIT.due("of none", new RopeLedger().twist(0, 0), false);
    RopeLedger x = KIT.sound(TWO + "debt a b 10 0 99;debt b a 20 0 99;debt a b 30 98 99;debt a b 7 0 99;debt a b 8 0 99;debt a b 9 0 99;twist 0 1;");
    x.years(1);
    x.pay(3);
    x.forgive(4);
    String before = Kit.all(x);
    int[] gone = {2, 3, 4, -1, 6, 12, Integer.MIN_VALUE, Integer.MAX_VALUE};
    for (int i : gone) {
      KIT.due("twist(0, " + i + ")", x.twist(0, i), false);
      KIT.due("twist(" + i + ", 0)", x.twist(i, 0), false);
      KIT.due("twist(" + i + ", 5)", x.twist(i, 5), false);
      KIT.due("twist(" + i + ", " + i + ")", x.twist(i, i), false);
    }
    KIT.due("it is so", x.twist(0, 1), false);
    KIT.due("it is so", x.twist(1, 0), false);
    KIT.due("it is so: it has none", x.twist(5, 5), false);
    KIT.stays("twist() that is refused", Kit.all(x), before);
    KIT.due("forgiving is the latest", x.undo(), 1);
  }

  /** "Two STRANDS get a TWIST (others of these are undone); with itself: its TWIST is undone: true". */
  private static void twistingOthers() {
    String six = TWO + "debt a b 10 0 99;".repeat(6);
    RopeLedger x = KIT.sound(six + "twist 0 1;twist 2 3;");
    twins("two free ones", x, x.twist(4, 5), 1, 0, 3, 2, 5, 4);
    x.undo();
    twins("a free one and one of a twist", x, x.twist(4, 0), 4, -1, 3, 2, 0, -1);
    x.undo();
    twins("one of a twist and a free one", x, x.twist(3, 5), 1, 0, -1, 5, -1, 3);
    x.undo();
    twins("two of two twists", x, x.twist(0, 3), 3, -1, -1, 0, -1, -1);
    x.undo();
    twins("two of two twists", x, x.twist(2, 1), -1, 2, 1, -1, -1, -1);
    x.undo();
    twins("the first with itself", x, x.twist(0, 0), -1, -1, 3, 2, -1, -1);
    x.undo();
    twins("the second with itself", x, x.twist(3, 3), 1, 0, -1, -1, -1, -1);
    x.undo();
    twins("as told", x, true, 1, 0, 3, 2, -1, -1);
    KIT.due("nothing to undo", x.count(15), 0);
  }

  private static void twins(String why, RopeLedger x, boolean done, int... want) {
    KIT.due(why, done, true);
    for (int i = 0; i < want.length; i++) {
      KIT.due(why + ": the twin of " + i, x.strand(i, 7), want[i]);
    }
  }

  /** A twist with one that isn't there stands till one of them gets another; a dead one loses it, too. */
  private static void twistingWhatIsGone() {
    RopeLedger x = KIT.sound(TWO + "debt a b 10 0 99;".repeat(4) + "twist 0 1;");
    x.forgive(1);
    twins("forgiven", x, true, 1, 0, -1, -1);
    twins("with itself", x, x.twist(0, 0), -1, -1, -1, -1);
    x.undo();
    twins("with another", x, x.twist(0, 2), 2, -1, 0, -1);
    x.undo();
    x.undo();
    twins("as told", x, true, 1, 0, -1, -1);
    KIT.due("and there", x.strand(1, 5), 0);
  }

  /** "NONE: no such ones"; "0 it can't bear that": neither changes anything. */
  private static void crossingRefused() {
    KIT.due("nobody is told", new RopeLedger().cross(0, 0), -1);
    RopeLedger x = KIT.sound(TWO + "plank 60;cross a 0 5;");
    x.cross(1, 0);
    String before = Kit.all(x);
    int[][] rows = {{-1, 0}, {2, 0}, {3, 0}, {0, -1}, {0, -2}, {0, 100}, {0, 101}, {1, 100}, {-1, 100}};
    for (int[] row : rows) {
      KIT.due("cross" + java.util.Arrays.toString(row), x.cross(row[0], row[1]), -1);
    }
    for (int far : FAR) {
      KIT.due("person " + far, x.cross(far, 0), -1);
      KIT.due("load " + far, x.cross(0, far), -1);
    }
    KIT.due("61 by 60", x.cross(0, 51), 0);
    KIT.due("61 by 60", x.cross(1, 41), 0);
    KIT.due("109 by 60", x.cross(0, 99), 0);
    KIT.stays("cross() that is refused", Kit.all(x), before);
  }

  private static void crossingAtBounds() {
    RopeLedger x = KIT.sound(TWO + "plank 60;");
    KIT.due("59 by 60", x.cross(0, 49), 1);
    KIT.due("60 by 60", x.cross(0, 50), 1);
    KIT.due("there and back", Kit.person(x, 0, 3), 0);
    KIT.due("60 by 60", x.cross(1, 40), 1);
    KIT.due("east", Kit.person(x, 1, 3), 0);
    KIT.due("load 0", x.cross(1, 0), 1);
    KIT.due("west", Kit.person(x, 1, 3), 1);
    RopeLedger y = KIT.sound("person a east 0 1;person b west 0 99;plank 198;");
    KIT.due("load 99: 100 by 198", y.cross(0, 99), 1);
    KIT.due("load 99: 198 by 198", y.cross(1, 99), 1);
    KIT.due("load 98", y.cross(1, 98), 1);
    KIT.due("three can be undone", y.count(15), 3);
    RopeLedger z = KIT.sound("person a east 0 1;person b west 0 99;plank 197;");
    KIT.due("load 99: 198 by 197", z.cross(1, 99), 0);
    RopeLedger none = KIT.sound("person a east 0 1;");
    KIT.due("1 by nothing", none.cross(0, 0), 0);
    RopeLedger one = KIT.sound("person a east 0 1;plank 1;");
    KIT.due("1 by 1", one.cross(0, 0), 1);
    KIT.due("2 by 1", one.cross(0, 1), 0);
  }

  /** "NONE, and none does: no such number"; (0 .. 99). */
  private static void yearsRefused() {
    RopeLedger x = KIT.sound(FOUR + "cross a 0 0;");
    x.forgive(3);
    String before = Kit.all(x);
    int[] none = {-1, -2, 100, 101, 999, 1000, Integer.MIN_VALUE, Integer.MAX_VALUE};
    for (int n : none) {
      KIT.due("years(" + n + ")", x.years(n), -1);
    }
    KIT.due("years(0)", x.years(0), 0);
    KIT.stays("years() that go by not", Kit.all(x), before);
    KIT.due("years(1)", x.years(1), 1);
    KIT.due("frayed by one year", x.strand(0, 3), 2);
    KIT.due("years(98)", x.years(98), 99);
    KIT.due("years(99)", x.years(99), 198);
    KIT.due("year", x.count(10), 198);
  }

  /** "behind 999". */
  private static void yearsBehind999() {
    RopeLedger x = KIT.sound(TWO + "debt a b 60 0 99;law fray 0;law rent year = 998;");
    for (int i = 0; i < 10; i++) {
      x.years(99);
    }
    KIT.due("990", x.count(10), 990);
    String before = Kit.all(x);
    KIT.due("990 and 10", x.years(10), -1);
    KIT.due("990 and 99", x.years(99), -1);
    KIT.stays("years() behind 999", Kit.all(x), before);
    KIT.due("990 and 8", x.years(8), 998);
    KIT.due("998 and 2", x.years(2), -1);
    KIT.due("it isn't grown yet", x.strand(0, 2), 60);
    KIT.due("998 and 1", x.years(1), 999);
    KIT.due("the last year went by", x.strand(0, 2), 61);
    KIT.due("999 and 1", x.years(1), -1);
    KIT.due("999 and 0", x.years(0), 999);
    KIT.due("it can be looked ahead", x.life(0), 99);
    KIT.due("it can be tried", x.tried(1, 0, 50), 61);
    RopeLedger y = KIT.sound("plank 1;");
    for (int i = 0; i < 10; i++) {
      y.years(99);
    }
    KIT.due("990 and 9 at once", y.years(9), 999);
  }

  /** "if WEIGHT and LOAD are at most what the BRIDGE BEARS, it is MADE .. else it is REFUSED", in their order. */
  private static void crossingsOfAYear() {
    RopeLedger x = KIT.sound(TWO + "cross a 49 0;cross a 50 0;cross a 51 0;cross b 39 0;cross b 40 0;cross b 41 0;plank 60;");
    x.years(1);
    int[] want = {1, 1, 2, 1, 1, 2};
    for (int i = 0; i < want.length; i++) {
      KIT.due("crossing " + i, x.crossing(i, 3), want[i]);
    }
    KIT.due("made", x.count(7), 4);
    KIT.due("refused", x.count(8), 2);
    KIT.due("a is back", Kit.person(x, 0, 3), 0);
    KIT.due("b is back", Kit.person(x, 1, 3), 1);
    RopeLedger y = KIT.sound(TWO + "debt a b 50 98 0;cross a 40 0;cross b 0 0;");
    y.years(1);
    KIT.due("bears 1 ahead of fraying: 50 by 1", y.crossing(0, 3), 2);
    RopeLedger z = KIT.sound(TWO + "debt a b 50 0 0;cross a 40 0;cross b 30 0;cross b 30 1;");
    z.years(2);
    KIT.due("50 by 50, ahead of fraying and paying", z.crossing(0, 3), 1);
    KIT.due("50 by 50", z.crossing(1, 3), 1);
    KIT.due("it is paid: 50 by 0", z.crossing(2, 3), 2);
  }

  /** "CROSSINGS of this YEAR": YEAR 0 and YEAR 99 are the ends of what a text may tell. */
  private static void crossingsOfTheirYear() {
    RopeLedger x = KIT.sound(TWO + "cross a 0 99;cross b 0 0;cross a 0 1;cross b 99 98;plank 60;");
    status(x, "in year 0", 0, 0, 0, 0);
    x.years(1);
    status(x, "in year 1", 0, 1, 0, 0);
    x.years(1);
    status(x, "in year 2", 0, 1, 1, 0);
    x.years(96);
    status(x, "in year 98", 0, 1, 1, 0);
    x.years(1);
    status(x, "in year 99", 0, 1, 1, 2);
    x.years(1);
    status(x, "in year 100", 1, 1, 1, 2);
    x.years(99);
    status(x, "in year 199", 1, 1, 1, 2);
    KIT.due("a is back", Kit.person(x, 0, 3), 0);
  }

  private static void status(RopeLedger x, String when, int... want) {
    for (int i = 0; i < want.length; i++) {
      KIT.due("crossing " + i + " " + when, x.crossing(i, 3), want[i]);
    }
  }

  private static int frayedBy(String law) {
    RopeLedger x = KIT.sound(TWO + "debt a b 60 0 99;" + law);
    x.years(1);
    KIT.due("it is there", x.strand(0, 5), 0);
    return x.strand(0, 3);
  }

  /** "more FRAYED by E of fray (0 .. 99; 2 without, with an ERROR)". */
  private static void frayingByLaw() {
    KIT.due("without", frayedBy(""), 2);
    KIT.due("an error", frayedBy("law fray 1/0;"), 2);
    KIT.due("an error", frayedBy("law fray 1000*1000*1000*1000+1;"), 2);
    KIT.due("an error", frayedBy("law fray 0-1-1000*1000*1000*1000;"), 2);
    KIT.due("far below", frayedBy("law fray 0-1000*1000*1000*1000;"), 0);
    KIT.due("-1", frayedBy("law fray 0-1;"), 0);
    KIT.due("0", frayedBy("law fray 0;"), 0);
    KIT.due("1", frayedBy("law fray 1;"), 1);
    KIT.due("98", frayedBy("law fray 98;"), 98);
    KIT.due("99", frayedBy("law fray 99;"), 99);
    KIT.due("100", frayedBy("law fray 100;"), 99);
    KIT.due("far above", frayedBy("law fray 1000*1000*1000*1000;"), 99);
    KIT.due("another law", frayedBy("law bear 5;law rent 7;"), 2);
  }

  /** "at 100 and above it SNAPPED". */
  private static void frayingTo100() {
    int[][] rows = {{97, 99, 0}, {98, 100, 3}, {99, 101, 3}, {96, 98, 0}};
    for (int[] row : rows) {
      RopeLedger x = KIT.sound(TWO + "debt a b 60 " + row[0] + " 99;debt a b 60 " + row[0] + " 99 painted;");
      x.years(1);
      for (int i = 0; i < 2; i++) {
        KIT.due("frayed", x.strand(i, 3), row[1]);
        KIT.due("at " + row[1], x.strand(i, 5), row[2]);
      }
      KIT.due("snapped", x.count(5), row[2] == 3 ? 2 : 0);
      KIT.due("owed", x.count(11), row[2] == 3 ? 0 : 120);
    }
    int[][] rich = {{1, 98, 0}, {1, 99, 3}, {0, 99, 0}, {99, 99, 3}, {99, 0, 0}};
    for (int[] row : rich) {
      RopeLedger x = KIT.sound(TWO + "debt a b 60 " + row[0] + " 99;law fray " + row[1] + ";");
      x.years(1);
      KIT.due(row[0] + " and " + row[1], x.strand(0, 5), row[2]);
    }
    RopeLedger due = KIT.sound(TWO + "debt a b 40 98 0;debt a b 40 97 0;law rent 5;");
    due.years(1);
    KIT.due("one that snapped has no rent", due.strand(0, 2), 40);
    KIT.due("and isn't paid", due.strand(0, 5), 3);
    KIT.due("the other one is", due.strand(1, 5), 1);
    KIT.due("with rent", Kit.person(due, 0, 0), 5);
    KIT.due("with rent", Kit.person(due, 1, 0), 75);
  }

  private static int grownBy(String law) {
    RopeLedger x = KIT.sound(TWO + "debt a b 60 0 99;" + law);
    x.years(1);
    return x.strand(0, 2) - 60;
  }

  /** "OWED is more by E of rent (0 .. 99; 0 without, with an ERROR)". */
  private static void rentByLaw() {
    KIT.due("without", grownBy(""), 0);
    KIT.due("an error", grownBy("law rent 1/0;"), 0);
    KIT.due("an error", grownBy("law rent 1000*1000*1000*1000+1;"), 0);
    KIT.due("far below", grownBy("law rent 0-1000*1000*1000*1000;"), 0);
    KIT.due("-1", grownBy("law rent 0-1;"), 0);
    KIT.due("0", grownBy("law rent 0;"), 0);
    KIT.due("1", grownBy("law rent 1;"), 1);
    KIT.due("98", grownBy("law rent 98;"), 98);
    KIT.due("99", grownBy("law rent 99;"), 99);
    KIT.due("100", grownBy("law rent 100;"), 99);
    KIT.due("far above", grownBy("law rent 1000*1000*1000*1000;"), 99);
    KIT.due("another law", grownBy("law bear 5;law fray 7;"), 0);
    KIT.due("behind fraying", grownBy("law rent frayed;law fray 7;"), 7);
  }

  /** "9999 at most". */
  private static void rentTo9999() {
    RopeLedger x = KIT.sound(TWO + "debt a b 98 0 99;debt a b 99 0 99;debt a b 100 0 99;law fray 0;law rent 99;law bear 0;");
    x.years(99);
    x.years(1);
    KIT.due("9998", x.strand(0, 2), 9998);
    KIT.due("9999", x.strand(1, 2), 9999);
    KIT.due("10000", x.strand(2, 2), 9999);
    x.years(1);
    for (int i = 0; i < 3; i++) {
      KIT.due("9999 at most", x.strand(i, 2), 9999);
    }
    KIT.due("in sum", x.count(11), 29997);
    KIT.due("in sum", Kit.person(x, 0, 4), 29997);
    RopeLedger y = KIT.sound(TWO + "debt a b 98 0 99;law fray 0;law rent 99 - 98 * (owed = 9998);");
    y.years(99);
    y.years(1);
    y.years(1);
    KIT.due("9998 and 1", y.strand(0, 2), 9999);
    KIT.due("it bears as much", y.bears(), 9999);
  }

  /** "by numbers each that is there and DUE in this YEAR or ahead is PAID". */
  private static void payingWhenDue() {
    RopeLedger x = KIT.sound(TWO + "debt a b 1 0 0;debt a b 2 0 1;debt a b 3 0 2;debt a b 4 0 99;law fray 0;");
    int[] gone = {0, 1, 2, 3};
    for (int year = 0; year < 4; year++) {
      KIT.due("paid by year " + year, x.count(3), gone[year]);
      x.years(1);
    }
    x.years(95);
    KIT.due("in year 99", x.count(3), 3);
    x.years(1);
    KIT.due("in year 100", x.count(3), 4);
    KIT.due("purse", Kit.person(x, 0, 0), 40);
    x.tie(0, 1, 5, 99);
    x.tie(0, 1, 6, 0);
    x.years(1);
    KIT.due("due ahead", x.count(3), 6);
  }

  /** "if PURSE of who owes is OWED at least: PURSE of the one is less, of the other more": one behind another. */
  private static void payingByPurses() {
    int[][] rows = {{49, 1}, {50, 1}, {51, 0}};
    for (int[] row : rows) {
      RopeLedger x = KIT.sound(TWO + "debt a b " + row[0] + " 0 0;");
      x.years(1);
      KIT.due(row[0] + " of 50", x.strand(0, 5), row[1]);
      KIT.due("purse", Kit.person(x, 0, 0), 50 - row[0] * row[1]);
      KIT.due("purse", Kit.person(x, 1, 0), 30 + row[0] * row[1]);
    }
    RopeLedger chain = KIT.sound("person a east 10 1;person b west 0 1;person c east 0 1;debt a b 10 0 0;debt b c 10 0 0;");
    chain.years(1);
    KIT.due("what comes in goes on", Kit.person(chain, 2, 0), 10);
    RopeLedger back = KIT.sound("person a east 10 1;person b west 0 1;person c east 0 1;debt b c 10 0 0;debt a b 10 0 0;");
    back.years(1);
    KIT.due("what comes in too late waits", Kit.person(back, 1, 0), 10);
    back.years(1);
    KIT.due("a year", Kit.person(back, 2, 0), 10);
    RopeLedger first = KIT.sound(TWO + "debt a b 30 0 0;debt a b 30 0 0;debt a b 20 0 0;");
    first.years(1);
    KIT.due("30 of 50", first.strand(0, 5), 1);
    KIT.due("30 of 20", first.strand(1, 5), 0);
    KIT.due("20 of 20", first.strand(2, 5), 1);
  }
}
