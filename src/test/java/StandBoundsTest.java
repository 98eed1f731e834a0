/** Bounds of what a strand and the bridge bear (part 2) and of promises 6 to 11: at each, just within it and just beyond it. */
public final class StandBoundsTest {
  private static final Kit KIT = new Kit("StandBoundsTest");
  private static final String TWO = "person a east 50 10;person b west 30 20;";
  private static final int[] FAR = {Integer.MIN_VALUE, -1000, 100, 1 << 20, Integer.MAX_VALUE};
  private static final long ERROR = Long.MIN_VALUE;

  public static void main(String[] args) {
    personsAsked();
    whatPersonsOwe();
    whereTheyStand();
    strandsAsked();
    strandsThatArent();
    crossingsAsked();
    lawsAsked();
    lawsOfNone();
    namesOfAnE();
    nameTwo();
    signsOfAnE();
    valuesOfAnE();
    productsBeyondALong();
    valuesOfLongEs();
    bearingByLaw();
    bearingWithoutLaw();
    bearingOfTwists();
    bearingMost();
    sagging();
    KIT.end();
  }

  /** "IndexOutOfBoundsException: no such PERSON. NoSuchElementException: no such what." */
  private static void personsAsked() {
    RopeLedger none = new RopeLedger();
    KIT.due("nobody is told", Kit.person(none, 0, 0), Kit.NO_PERSON);
    KIT.due("nobody is told", Kit.person(none, 0, 9), Kit.NO_PERSON);
    RopeLedger x = KIT.sound(TWO + "person c east 999 99;person d west 0 1;person e west 1 2;");
    String before = Kit.all(x);
    for (int what = 0; what < 6; what++) {
      KIT.due("the last one's " + what, Kit.person(x, 4, what), new int[] {1, 2, 1, 1, 0, 0}[what]);
      KIT.due("one behind the last", Kit.person(x, 5, what), Kit.NO_PERSON);
      KIT.due("one ahead of the first", Kit.person(x, -1, what), Kit.NO_PERSON);
    }
    for (int i = 0; i < 5; i++) {
      KIT.due("what -1", Kit.person(x, i, -1), Kit.NO_WHAT);
      KIT.due("what 6", Kit.person(x, i, 6), Kit.NO_WHAT);
    }
    for (int far : FAR) {
      KIT.due("person " + far, Kit.person(x, far, 0), Kit.NO_PERSON);
      KIT.due("what " + far, Kit.person(x, 0, far), Kit.NO_WHAT);
      KIT.due("both " + far, Kit.person(x, far, far), Kit.NO_PERSON);
    }
    KIT.due("both just beyond", Kit.person(x, 5, 6), Kit.NO_PERSON);
    KIT.due("both just beyond", Kit.person(x, -1, -1), Kit.NO_PERSON);
    KIT.stays("person()", Kit.all(x), before);
    RopeLedger six = KIT.sound("person a east 1 1;person b west 1 1;person c east 1 1;person d west 1 1;person e east 1 1;person f west 7 8;");
    KIT.due("the last of six", Kit.person(six, 5, 1), 8);
    KIT.due("a seventh", Kit.person(six, 6, 1), Kit.NO_PERSON);
  }

  /** "what is owed by it in sum (STRANDS that are there), 5 what is owed to it". */
  private static void whatPersonsOwe() {
    RopeLedger x = KIT.sound(TWO + "person c east 0 9;debt a b 1 0 99;debt a b 20 0 99;debt a b 300 98 99;debt b a 7 0 99;debt c b 5 0 99;");
    due2("all", x, 0, 321, 7);
    due2("all", x, 1, 7, 326);
    due2("all", x, 2, 5, 0);
    x.pay(1);
    due2("20 is paid", x, 0, 301, 7);
    due2("20 is paid", x, 1, 7, 306);
    x.forgive(0);
    due2("1 is forgiven", x, 0, 300, 7);
    x.forgive(3);
    due2("7 is forgiven", x, 0, 300, 0);
    due2("7 is forgiven", x, 1, 0, 305);
    x.years(1);
    due2("300 snapped", x, 0, 0, 0);
    due2("300 snapped", x, 1, 0, 5);
    x.forgive(4);
    due2("nothing", x, 1, 0, 0);
    due2("nothing", x, 2, 0, 0);
    KIT.due("all owed", x.count(11), 0);
  }

  private static void due2(String why, RopeLedger x, int person, int by, int to) {
    KIT.due(why + ": owed by " + person, Kit.person(x, person, 4), by);
    KIT.due(why + ": owed to " + person, Kit.person(x, person, 5), to);
  }

  /** "the PERSON stands on the other SIDE: at first on the own one": there and back. */
  private static void whereTheyStand() {
    RopeLedger x = KIT.sound(TWO + "cross a 0 0;cross a 0 0;cross b 0 0;cross b 81 1;cross a 0 1;plank 100;");
    KIT.due("east", Kit.person(x, 0, 3), 0);
    KIT.due("west", Kit.person(x, 1, 3), 1);
    x.years(1);
    KIT.due("there and back", Kit.person(x, 0, 3), 0);
    KIT.due("there", Kit.person(x, 1, 3), 0);
    x.years(1);
    KIT.due("there", Kit.person(x, 0, 3), 1);
    KIT.due("refused: it stays", Kit.person(x, 1, 3), 0);
    KIT.due("own side", Kit.person(x, 0, 2), 0);
    KIT.due("own side", Kit.person(x, 1, 2), 1);
  }

  /** "NONE: no such ones." */
  private static void strandsAsked() {
    KIT.due("of none", new RopeLedger().strand(0, 0), -1);
    RopeLedger x = KIT.sound(TWO + "debt a b 40 7 2;debt b a 30 50 1;");
    String before = Kit.all(x);
    for (int what = 0; what < 9; what++) {
      int want = new int[] {1, 0, 30, 50, 1, 0, 15, -1, 0}[what];
      KIT.due("the last one's " + what, x.strand(1, what), want);
      KIT.due("one behind the last", x.strand(2, what), -1);
      KIT.due("one ahead of the first", x.strand(-1, what), -1);
    }
    KIT.due("what 9", x.strand(0, 9), -1);
    KIT.due("what -1", x.strand(0, -1), -1);
    for (int far : FAR) {
      KIT.due("strand " + far, x.strand(far, 0), -1);
      KIT.due("what " + far, x.strand(0, far), -1);
    }
    KIT.stays("strand()", Kit.all(x), before);
    RopeLedger y = KIT.sound(TWO + "debt a b 1 0 0;".repeat(10));
    KIT.due("the last of ten", y.strand(9, 2), 1);
    KIT.due("an eleventh", y.strand(10, 2), -1);
    y.tie(0, 1, 8, 9);
    y.tie(1, 0, 9, 9);
    KIT.due("the last of twelve", y.strand(11, 2), 9);
    KIT.due("a thirteenth", y.strand(12, 2), -1);
  }

  /** One that isn't there any more is asked as before; it bears nothing. */
  private static void strandsThatArent() {
    RopeLedger x = KIT.sound(TWO + "debt a b 40 7 9;debt b a 30 50 8;debt a b 20 98 7;debt b a 10 0 6;twist 0 2;");
    x.pay(0);
    x.forgive(1);
    x.years(1);
    int[][] want = {{0, 1, 40, 7, 9, 1, 0, 2, 0}, {1, 0, 30, 50, 8, 2, 0, -1, 0}, {0, 1, 20, 100, 7, 3, 0, 0, 0}, {1, 0, 10, 2, 6, 0, 10, -1, 0}};
    for (int i = 0; i < want.length; i++) {
      for (int what = 0; what < 9; what++) {
        KIT.due("strand " + i + " " + what, x.strand(i, what), want[i][what]);
      }
    }
    x.years(1);
    KIT.due("paid ones fray no more", x.strand(0, 3), 7);
    KIT.due("forgiven ones fray no more", x.strand(1, 3), 50);
    KIT.due("snapped ones fray no more", x.strand(2, 3), 100);
    KIT.due("there", x.count(2), 1);
  }

  /** "NONE: no such ones." */
  private static void crossingsAsked() {
    KIT.due("of none", new RopeLedger().crossing(0, 0), -1);
    RopeLedger x = KIT.sound(TWO + "cross b 1 2;cross a 3 4;");
    String before = Kit.all(x);
    for (int what = 0; what < 4; what++) {
      KIT.due("the last one's " + what, x.crossing(1, what), new int[] {0, 3, 4, 0}[what]);
      KIT.due("one behind the last", x.crossing(2, what), -1);
      KIT.due("one ahead of the first", x.crossing(-1, what), -1);
    }
    KIT.due("what 4", x.crossing(0, 4), -1);
    KIT.due("what -1", x.crossing(0, -1), -1);
    for (int far : FAR) {
      KIT.due("crossing " + far, x.crossing(far, 0), -1);
      KIT.due("what " + far, x.crossing(0, far), -1);
    }
    KIT.stays("crossing()", Kit.all(x), before);
    RopeLedger y = KIT.sound(TWO + "cross b 1 2;".repeat(7) + "cross a 98 97;");
    KIT.due("the last of eight", y.crossing(7, 1), 98);
    KIT.due("a ninth", y.crossing(8, 1), -1);
  }

  /** "Long.MIN_VALUE: an ERROR, no such law, no such ones, it isn't there." */
  private static void lawsAsked() {
    RopeLedger x = KIT.sound(TWO + "debt a b 1 0 99;debt a b 2 0 99 painted;debt a b 3 0 99;debt b a 4 99 99;law bear 5;law fray 6;law rent 7;");
    String before = Kit.all(x);
    for (int what = 0; what < 3; what++) {
      for (int i = 0; i < 4; i++) {
        KIT.due("law(" + what + ", " + i + ")", x.law(what, i), 5 + what);
      }
      KIT.due("one behind the last", x.law(what, 4), ERROR);
      KIT.due("one ahead of the first", x.law(what, -1), ERROR);
    }
    KIT.due("what 3", x.law(3, 0), ERROR);
    KIT.due("what -1", x.law(-1, 0), ERROR);
    for (int far : FAR) {
      KIT.due("strand " + far, x.law(0, far), ERROR);
      KIT.due("what " + far, x.law(far, 0), ERROR);
    }
    KIT.stays("law()", Kit.all(x), before);
    x.pay(0);
    x.forgive(2);
    x.years(1);
    for (int what = 0; what < 3; what++) {
      KIT.due("paid", x.law(what, 0), ERROR);
      KIT.due("painted, there", x.law(what, 1), 5 + what);
      KIT.due("forgiven", x.law(what, 2), ERROR);
      KIT.due("snapped", x.law(what, 3), ERROR);
    }
  }

  private static void lawsOfNone() {
    String[] kinds = {"bear", "fray", "rent"};
    for (int told = 0; told < 3; told++) {
      RopeLedger x = KIT.sound(TWO + "debt a b 1 0 99;law " + kinds[told] + " 8;");
      for (int what = 0; what < 3; what++) {
        KIT.due("law " + what + " where " + kinds[told] + " is told", x.law(what, 0), what == told ? 8 : ERROR);
      }
    }
    RopeLedger none = new RopeLedger();
    KIT.due("of nothing", none.law(0, 0), ERROR);
    KIT.due("without strands", KIT.sound("law bear 1;").law(0, 0), ERROR);
  }

  private static long worth(String e) {
    return KIT.sound(TWO + "debt a b 40 7 2;law rent " + e + ";").law(2, 0);
  }

  /** "owed: OWED; frayed: FRAYED; age: YEARS since it was tied; due: DUE; year; rich: PURSE of who owes": as they are now. */
  private static void namesOfAnE() {
    KIT.due("owed", worth("owed"), 40);
    KIT.due("frayed", worth("frayed"), 7);
    KIT.due("age", worth("age"), 0);
    KIT.due("due", worth("due"), 2);
    KIT.due("year", worth("year"), 0);
    KIT.due("rich", worth("rich"), 50);
    KIT.due("two", worth("two"), 0);
    RopeLedger x = KIT.sound(TWO + "debt a b 80 0 99;law bear rich * 1000 + age;law fray 3;law rent year + 1;");
    x.years(2);
    x.tie(1, 0, 10, 99);
    KIT.due("a has 50, age 2", x.law(0, 0), 50002);
    KIT.due("b has 30, age 0", x.law(0, 1), 30000);
    x.tie(1, 0, 10, 99);
    x.pay(2);
    KIT.due("a has 60", x.law(0, 0), 60002);
    KIT.due("b has 20", x.law(0, 1), 20000);
    x.years(1);
    KIT.due("age 3", x.law(0, 0), 60003);
    KIT.due("age 1", x.law(0, 1), 20001);
    KIT.due("year 3", x.law(2, 0), 4);
    KIT.due("1, 2 and 3 more", x.strand(0, 2), 86);
    x.undo();
    x.keep();
    x.years(5);
    x.back();
    KIT.due("age as in the image", x.law(0, 1), 20001);
    x.forgive(0);
    x.undo();
    KIT.due("age as before it was undone", x.law(0, 0), 60003);
    KIT.due("the year it was tied", x.strand(1, 8), 2);
    RopeLedger old = KIT.sound(TWO + "debt a b 80 0 99;law bear age * 10 + year;law fray 0;");
    old.years(3);
    old.tie(0, 1, 90, 99);
    KIT.due("of age 3 and 0", old.bears(), 33 + 3);
    KIT.due("of age 5 and 2, in year 5", old.tried(4, 0, 2), 55 + 25);
    old.years(2);
    KIT.due("of age 5 and 2, in year 5", old.bears(), 55 + 25);
  }

  /** "two: 1, if it is in a TWIST with one that is there, else 0." */
  private static void nameTwo() {
    RopeLedger x = KIT.sound(TWO + "debt a b 10 0 99;debt a b 20 0 99 painted;debt a b 30 98 99;debt b a 5 0 99;debt b a 6 0 99;twist 0 1;"
        + "twist 2 3;law rent two;");
    int[] want = {1, 1, 1, 1, 0};
    for (int i = 0; i < want.length; i++) {
      KIT.due("two of " + i, x.law(2, i), want[i]);
    }
    x.forgive(0);
    KIT.due("its partner is forgiven", x.law(2, 1), 0);
    x.undo();
    KIT.due("undone", x.law(2, 1), 1);
    x.pay(0);
    KIT.due("its partner is paid", x.law(2, 1), 0);
    x.years(1);
    KIT.due("its partner snapped", x.law(2, 3), 0);
    x.twist(3, 4);
    KIT.due("twisted by call", x.law(2, 3), 1);
    KIT.due("twisted by call", x.law(2, 4), 1);
    x.twist(4, 4);
    KIT.due("untwisted by call", x.law(2, 3), 0);
  }

  /** Each sign at, just below and just above where its answer turns. */
  private static void signsOfAnE() {
    String[] signs = {"<", "<=", "=", "<>", ">=", ">"};
    int[][] want = {{1, 0, 0}, {1, 1, 0}, {0, 1, 0}, {1, 0, 1}, {0, 1, 1}, {0, 0, 1}};
    for (int i = 0; i < signs.length; i++) {
      for (int left = 4; left <= 6; left++) {
        KIT.due(left + signs[i] + "5", worth(left + signs[i] + "5"), want[i][left - 4]);
        KIT.due("0-" + left + signs[i] + "0-5", worth("0-" + left + signs[i] + "0-5"), want[i][6 - left]);
      }
    }
    int[] values = {-2, -1, 0, 1, 2};
    for (int one : values) {
      String left = "(" + (one < 0 ? "0-" + -one : "" + one) + ")";
      KIT.due("not " + left, worth("not " + left), one == 0 ? 1 : 0);
      for (int other : values) {
        String right = "(" + (other < 0 ? "0-" + -other : "" + other) + ")";
        KIT.due(left + " and " + right, worth(left + " and " + right), one != 0 && other != 0 ? 1 : 0);
        KIT.due(left + " or " + right, worth(left + " or " + right), one != 0 || other != 0 ? 1 : 0);
      }
    }
    KIT.due("cut towards 0", worth("9 / 5"), 1);
    KIT.due("cut towards 0", worth("(0 - 9) / 5"), -1);
    KIT.due("cut towards 0", worth("9 / (0 - 5)"), -1);
    KIT.due("cut towards 0", worth("(0 - 9) / (0 - 5)"), 1);
    KIT.due("cut towards 0", worth("(0 - 4) / 5"), 0);
    KIT.due("times ahead of by", worth("7 * 3 / 2"), 10);
    KIT.due("by ahead of times", worth("7 / 2 * 3"), 9);
    KIT.due("minus ahead of plus", worth("7 - 2 + 3"), 8);
    KIT.due("plus ahead of minus", worth("7 + 2 - 3"), 6);
    KIT.due("times behind plus", worth("1 + 2 * 3 - 4 / 2"), 5);
    KIT.due("brackets within brackets", worth("((1 + 2) * (3 + (4 - 2) * 2)) - 1"), 20);
    KIT.due("nots", worth("not not not 5"), 0);
    KIT.due("nots", worth("not not not not 5"), 1);
    KIT.due("not of a comparison", worth("not 2 < 1"), 1);
    KIT.due("not of a sum", worth("not 2 - 2"), 1);
    KIT.due("and of comparisons", worth("1 < 2 and 3 < 2 or 2 = 2"), 1);
    KIT.due("or of ands", worth("0 or 1 and 0 or 0"), 0);
  }

  /** "ERROR: / by 0, a value above 10 to the 12 or below 0 by more than that": any value on the way. */
  private static void valuesOfAnE() {
    String most = "1000*1000*1000*1000";
    long ten12 = 1000000000000L;
    KIT.due("one less", worth(most + "-1"), ten12 - 1);
    KIT.due("10 to the 12", worth(most), ten12);
    KIT.due("one more", worth(most + "+1"), ERROR);
    KIT.due("one more, on the way", worth(most + "+1-1"), ERROR);
    KIT.due("one more, on the way", worth("(" + most + "+1)*0"), ERROR);
    KIT.due("one more, on the way", worth("0 and " + most + "+1"), ERROR);
    KIT.due("one more, on the way", worth("1 or " + most + "+1"), ERROR);
    KIT.due("one more, on the way", worth("not " + most + "+1"), ERROR);
    KIT.due("one more, on the way", worth("1 < " + most + "+1"), ERROR);
    KIT.due("below, one less", worth("1-" + most), 1 - ten12);
    KIT.due("below", worth("0-" + most), -ten12);
    KIT.due("below, one more", worth("0-1-" + most), ERROR);
    KIT.due("below, one more, on the way", worth("0-1-" + most + "+1"), ERROR);
    KIT.due("a product", worth("(1000*1000)*(1000*1000)"), ten12);
    KIT.due("a product, one more", worth("(1000*1000+1)*(1000*1000)"), ERROR);
    KIT.due("a product, less", worth("(1000*1000-1)*(1000*1000)"), ten12 - 1000000);
    KIT.due("a product below", worth("(0-1000*1000)*(1000*1000)"), -ten12);
    KIT.due("a product below", worth("(1000*1000)*(0-1000*1000)"), -ten12);
    KIT.due("a product below, more", worth("(1000*1000)*(0-1000*1000-1)"), ERROR);
    KIT.due("a product of two below", worth("(0-1000*1000)*(0-1000*1000)"), ten12);
    KIT.due("a product of two below, more", worth("(0-1000*1000-1)*(0-1000*1000)"), ERROR);
    KIT.due("just beyond by a product", worth("1000*1000*1000*1000*1"), ten12);
    KIT.due("times 0", worth("0*(" + most + ")"), 0);
    KIT.due("times 0", worth("(" + most + ")*0"), 0);
    KIT.due("halves", worth("(" + most + ")/2+(" + most + ")/2"), ten12);
    KIT.due("by 0", worth("0/0"), ERROR);
    KIT.due("by 0", worth("5/(3-3)"), ERROR);
    KIT.due("by 1", worth("5/(4-3)"), 5);
    KIT.due("by -1", worth("5/(2-3)"), -5);
    KIT.due("by 0 on the way", worth("5/0*0"), ERROR);
    KIT.due("by 0 on the way", worth("not 5/0"), ERROR);
    KIT.due("both sides are worked out", worth("0 and 5/0"), ERROR);
    KIT.due("both sides are worked out", worth("1 or 5/0"), ERROR);
    KIT.due("both sides are worked out", worth("5/0 or 1"), ERROR);
  }

  /** Products that a long would wrap to 0, or to a small value, are errors all the same. */
  private static void productsBeyondALong() {
    for (int k = 0; k <= 39; k++) {
      KIT.due("2 to the " + k, worth(power(k)), 1L << k);
      KIT.due("2 to the " + k + " below 0", worth("0-" + power(k)), -(1L << k));
      KIT.due("2 to the " + k + " times 1", worth("(" + power(k) + ")*1"), 1L << k);
      KIT.due("1 times 2 to the " + k, worth("1*(" + power(k) + ")"), 1L << k);
      KIT.due("2 to the 39", worth("(" + power(k) + ")*(" + power(39 - k) + ")"), 1L << 39);
      KIT.due("2 to the 40 is beyond", worth("(" + power(k) + ")*(" + power(40 - k) + ")"), ERROR);
    }
    for (int k = 25; k <= 39; k++) {
      KIT.due("2 to the " + k + " times 2 to the " + (64 - k), worth("(" + power(k) + ")*(" + power(64 - k) + ")"), ERROR);
      KIT.due("below 0", worth("(0-" + power(k) + ")*(" + power(64 - k) + ")"), ERROR);
      KIT.due("of two below 0", worth("(0-" + power(k) + ")*(0-" + power(64 - k) + ")"), ERROR);
    }
  }

  /** An E of all 64 knots: each of them counts. */
  private static void valuesOfLongEs() {
    for (int nots = 1; nots <= 63; nots++) {
      KIT.due(nots + " times not", worth("not ".repeat(nots) + "5"), nots % 2 == 0 ? 1 : 0);
    }
    KIT.due("55 nots in brackets", worth("(not ".repeat(8) + "not ".repeat(47) + "0" + ")".repeat(8)), 1);
    KIT.due("56 nots in brackets", worth("(not ".repeat(8) + "not ".repeat(48) + "0" + ")".repeat(8)), 0);
    KIT.due("61 nots in brackets, and a sum", worth("(not ".repeat(8) + "not ".repeat(53) + "0" + ")".repeat(8) + "+9"), 10);
    KIT.due("32 ones", worth("1" + "+1".repeat(31)), 32);
    KIT.due("32 ones, one less the others", worth("1" + "-1".repeat(31)), -30);
    KIT.due("deep on the right", worth("1+(1+(1+(1+(1+(1+(1+(1+(1*2))))))))"), 10);
    KIT.due("deep on the left", worth("((((((((2*1)+1)+1)+1)+1)+1)+1)+1)+1"), 10);
    KIT.due("each sign waits for the next", worth("0 or 1 and not 2 < 3 + 4 * (0 or 1 and not 5 < 3 + 4 * 5)"), 0);
    KIT.due("each sign waits for the next", worth("0 or 1 and not 2 < 2 + 4 * (0 or 1 and not 5 < 3 + 4 * 5)"), 1);
  }

  /** 2 to the k as a product of numbers that an E may have. */
  private static String power(int k) {
    StringBuilder text = new StringBuilder();
    int left = k;
    while (left > 13) {
      text.append("8192*");
      left -= 13;
    }
    return text.append(1 << left).toString();
  }

  private static int bearing(String debt, String e) {
    RopeLedger x = KIT.sound(TWO + debt + "law bear " + e + ";");
    KIT.due("alone", x.strand(0, 6), x.bears());
    return x.bears();
  }

  /** "E of bear (0 .. 9999; without, with an ERROR: ..)". */
  private static void bearingByLaw() {
    String debt = "debt a b 40 7 2;";
    KIT.due("-2", bearing(debt, "0-2"), 0);
    KIT.due("-1", bearing(debt, "0-1"), 0);
    KIT.due("0", bearing(debt, "0"), 0);
    KIT.due("1", bearing(debt, "1"), 1);
    KIT.due("9998", bearing(debt, "9998"), 9998);
    KIT.due("9999", bearing(debt, "9999"), 9999);
    KIT.due("10000", bearing(debt, "9999+1"), 9999);
    KIT.due("far above", bearing(debt, "1000*1000*1000*1000"), 9999);
    KIT.due("far below", bearing(debt, "0-1000*1000*1000*1000"), 0);
    KIT.due("above what a value may be", bearing(debt, "1000*1000*1000*1000+1"), 38);
    KIT.due("below what a value may be", bearing(debt, "0-1-1000*1000*1000*1000"), 38);
    KIT.due("by 0", bearing(debt, "1/(owed-40)"), 38);
    KIT.due("by 1", bearing(debt, "1/(owed-39)"), 1);
    KIT.due("painted", bearing("debt a b 40 7 2 painted;", "9999"), 0);
    KIT.due("painted, by 0", bearing("debt a b 40 7 2 painted;", "1/0"), 0);
  }

  /** "OWED less OWED times FRAYED by 100, cut". */
  private static void bearingWithoutLaw() {
    int[][] rows = {{1, 0, 1}, {1, 99, 1}, {2, 49, 2}, {2, 50, 1}, {2, 99, 1}, {50, 1, 50}, {50, 2, 49}, {99, 1, 99}, {100, 1, 99}, {101, 1, 100},
        {100, 99, 1}, {101, 99, 2}, {102, 99, 2}, {998, 99, 10}, {999, 0, 999}, {999, 1, 990}, {999, 98, 20}, {999, 99, 10}};
    for (int[] row : rows) {
      RopeLedger x = KIT.sound(TWO + "debt a b " + row[0] + " " + row[1] + " 99;");
      KIT.due(row[0] + " frayed " + row[1], x.strand(0, 6), row[2]);
      KIT.due(row[0] + " frayed " + row[1], x.bears(), row[2]);
    }
    RopeLedger none = KIT.sound(TWO + "debt a b 5 0 99 painted;plank 999;");
    KIT.due("painted", none.strand(0, 6), 0);
    KIT.due("the plank alone", none.bears(), 999);
    KIT.due("without lines", new RopeLedger().bears(), 0);
  }

  /** "two in a TWIST, both there, together half as much more, cut." */
  private static void bearingOfTwists() {
    int[][] rows = {{1, 1, 3}, {1, 2, 4}, {2, 2, 6}, {2, 3, 7}, {3, 3, 9}, {999, 999, 2997}, {999, 998, 2995}};
    for (int[] row : rows) {
      RopeLedger x = KIT.sound(TWO + "debt a b " + row[0] + " 0 99;debt b a " + row[1] + " 0 99;twist 0 1;plank 5;");
      KIT.due(row[0] + " and " + row[1], x.bears(), 5 + row[2]);
      KIT.due("alone", x.strand(0, 6), row[0]);
      x.forgive(0);
      KIT.due("one of them", x.bears(), 5 + row[1]);
      x.undo();
      x.forgive(1);
      KIT.due("the other one", x.bears(), 5 + row[0]);
      x.forgive(0);
      KIT.due("none", x.bears(), 5);
    }
    RopeLedger painted = KIT.sound(TWO + "debt a b 3 0 99 painted;debt b a 1 0 99;debt b a 4 0 99;twist 0 1;");
    KIT.due("0 and 1: 1, and 4", painted.bears(), 5);
    painted.twist(0, 2);
    KIT.due("0 and 4: 6, and 1", painted.bears(), 7);
    RopeLedger both = KIT.sound(TWO + "debt a b 3 0 99 painted;debt b a 1 0 99 painted;twist 1 0;");
    KIT.due("0 and 0", both.bears(), 0);
    RopeLedger cut = KIT.sound(TWO + "debt a b 1 0 99;debt b a 2 0 99;debt a b 1 0 99;debt b a 2 0 99;twist 0 1;twist 3 2;");
    KIT.due("each is cut for itself", cut.bears(), 8);
  }

  /** All that may be: twelve strands of 9999 in six twists, and a plank of 999. */
  private static void bearingMost() {
    RopeLedger x = KIT.sound(TWO + "debt a b 1 0 99;".repeat(10) + "twist 0 1;twist 2 3;twist 4 5;twist 6 7;twist 8 9;plank 999;law bear 9999+1;");
    x.tie(0, 1, 1, 1);
    x.tie(0, 1, 1, 1);
    x.twist(11, 10);
    KIT.due("it bears", x.bears(), 999 + 6 * 29997);
    KIT.due("sag", x.sag(999), 0);
    KIT.due("cross", x.cross(0, 99), 1);
    KIT.due("order", x.order(4095, 9999, 0), -2);
    KIT.due("one of twelve and the plank bear 9999 still: all are cut", x.drop(9999), 4095);
    KIT.due("twists", x.twists(5), 999 + 12 * 9999 + 5 * 9999);
    KIT.due("rests", x.rests(9999), 2);
  }

  /** "SAG of a load: load times 100 by what the BRIDGE BEARS, cut; 9999 at most, and if it BEARS nothing." Loads 1 .. 999. */
  private static void sagging() {
    RopeLedger x = KIT.sound("plank 100;");
    int[] loads = {1, 2, 99, 100, 101, 998, 999};
    for (int load : loads) {
      KIT.due("sag(" + load + ") by 100", x.sag(load), load);
    }
    int[] none = {0, -1, 1000, 1001, Integer.MAX_VALUE, Integer.MIN_VALUE};
    for (int load : none) {
      KIT.due("sag(" + load + ")", x.sag(load), -1);
    }
    RopeLedger three = KIT.sound("plank 3;");
    KIT.due("33.3", three.sag(1), 33);
    KIT.due("66.6", three.sag(2), 66);
    KIT.due("100", three.sag(3), 100);
    KIT.due("9966", three.sag(299), 9966);
    KIT.due("10000", three.sag(300), 9999);
    RopeLedger one = KIT.sound("plank 1;");
    KIT.due("100", one.sag(1), 100);
    KIT.due("9900", one.sag(99), 9900);
    KIT.due("10000", one.sag(100), 9999);
    KIT.due("99900", one.sag(999), 9999);
    RopeLedger most = KIT.sound("plank 999;");
    KIT.due("100", most.sag(999), 100);
    KIT.due("99.8", most.sag(998), 99);
    KIT.due("0.1", most.sag(1), 0);
    RopeLedger nothing = KIT.sound(TWO + "debt a b 9 0 0 painted;");
    KIT.due("it bears nothing", nothing.sag(1), 9999);
    KIT.due("it bears nothing", nothing.sag(999), 9999);
    KIT.due("no such load", nothing.sag(0), -1);
    KIT.due("no such load", nothing.sag(1000), -1);
  }
}
