import java.util.ArrayList;
import java.util.List;
import java.util.Random;

/** Bounds of orders, cuts, loans, twists and of what will be (part 3), promises 18 to 25. */
public final class SearchBoundsTest {
  private static final Kit KIT = new Kit("SearchBoundsTest");
  private static final String TWO = "person a east 50 10;person b west 30 20;";
  private static final int[] FAR = {Integer.MIN_VALUE, -1000, 1 << 20, Integer.MAX_VALUE};

  public static void main(String[] args) {
    ordersAsked();
    ordersOfWhatIsGone();
    ordersByLoad();
    ordersByPurses();
    ordersOfTwelve();
    ordersThatTurnBack();
    ordersByAPlainSearch();
    ordersThatNeverCome();
    dropsAsked();
    dropsAtLoads();
    dropsOfTwelve();
    dropsOfTwists();
    loansAsked();
    loansAtLoads();
    loansByLaw();
    strikesAsked();
    twistsAsked();
    twistsOfFew();
    twistsOfTwelve();
    partnersAsked();
    partnersFirst();
    whatWasUndoneWeighsNothing();
    livesAsked();
    livesTo99();
    aheadsAsked();
    aheadsByYears();
    KIT.end();
  }

  /** "ORDER (bits, a load 0 .. 9999) ..; NONE: no such ones". */
  private static void ordersAsked() {
    RopeLedger none = new RopeLedger();
    KIT.due("of no strands", none.order(0, 0, 0), -2);
    KIT.due("of no strands", none.order(0, 9999, 0), -2);
    KIT.due("of no such strand", none.order(1, 0, 0), -1);
    RopeLedger x = KIT.sound(TWO + "debt a b 1 0 99;debt a b 2 0 99;debt b a 3 0 99;");
    String before = Kit.all(x);
    int[] wrong = {-1, 8, 9, 15, 4096, 1 << 30, Integer.MIN_VALUE, Integer.MAX_VALUE};
    for (int bits : wrong) {
      KIT.due("order(" + bits + ", 0, 0)", x.order(bits, 0, 0), -1);
    }
    KIT.due("load -1", x.order(1, -1, 0), -1);
    KIT.due("load 0", x.order(1, 0, 0), 0);
    KIT.due("load 1", x.order(1, 1, 0), 0);
    KIT.due("load 9998", x.order(1, 9998, 0), -2);
    KIT.due("load 9999", x.order(1, 9999, 0), -2);
    KIT.due("load 10000", x.order(1, 10000, 0), -1);
    KIT.due("k -1", x.order(7, 0, -1), -1);
    KIT.due("k 0", x.order(7, 0, 0), 0);
    KIT.due("k 1", x.order(7, 0, 1), 1);
    KIT.due("k 2", x.order(7, 0, 2), 2);
    KIT.due("k 3: there are no so many", x.order(7, 0, 3), -2);
    KIT.due("k 1 of one", x.order(4, 0, 1), -2);
    KIT.due("k 0 of none", x.order(0, 0, 0), -2);
    for (int far : FAR) {
      KIT.due("load " + far, x.order(1, far, 0), -1);
      KIT.due("k " + far, x.order(1, 0, far), far < 0 ? -1 : -2);
    }
    KIT.stays("order()", Kit.all(x), before);
  }

  /** "NONE: .. one isn't there", whatever else is asked. */
  private static void ordersOfWhatIsGone() {
    RopeLedger x = KIT.sound(TWO + "debt a b 1 0 99;debt a b 2 0 99;debt b a 3 98 99;debt a b 4 0 99;");
    x.years(1);
    x.pay(0);
    x.forgive(1);
    for (int bits = 0; bits < 16; bits++) {
      KIT.due("order(" + bits + ", 0, 0)", x.order(bits, 0, 0), bits == 0 ? -2 : bits == 8 ? 3 : -1);
      KIT.due("order(" + bits + ", 0, 9)", x.order(bits, 0, 9), bits == 0 || bits == 8 ? -2 : -1);
    }
  }

  /** "behind each the BRIDGE BEARS at least the load": what it bears ahead of the first isn't asked. */
  private static void ordersByLoad() {
    RopeLedger x = KIT.sound(TWO + "debt a b 10 0 99;debt a b 20 0 99;debt b a 5 0 99;plank 7;");
    KIT.due("it bears 42, then 32", x.order(1, 32, 0), 0);
    KIT.due("not 33", x.order(1, 33, 0), -2);
    KIT.due("31", x.order(1, 31, 0), 0);
    KIT.due("32, then 12", x.order(3, 12, 1), 1);
    KIT.due("not 13", x.order(3, 13, 0), -2);
    KIT.due("7 behind all", x.order(7, 7, 2), 2);
    KIT.due("not 8", x.order(7, 8, 0), -2);
    KIT.due("none, with a load that it bears", x.order(0, 42, 0), -2);
    KIT.due("none, with a load that it bears not", x.order(0, 43, 0), -2);
  }

  /** "all of them are PAID (now, by PURSES as they are then)". */
  private static void ordersByPurses() {
    RopeLedger x = KIT.sound(TWO + "debt a b 49 0 99;debt a b 50 0 99;debt a b 51 0 99;debt b a 1 0 99;");
    KIT.due("49 of 50", x.order(1, 0, 0), 0);
    KIT.due("50 of 50", x.order(2, 0, 0), 1);
    KIT.due("51 of 50", x.order(4, 0, 0), -2);
    KIT.due("1 comes in ahead of 51", x.order(12, 0, 0), 3);
    KIT.due("then 51", x.order(12, 0, 1), 2);
    KIT.due("49 and 50 are more than 51", x.order(11, 0, 0), -2);
    KIT.due("49 is paid first, 1 later", x.order(9, 0, 0), 0);
    KIT.due("49 is paid first, 1 later", x.order(9, 0, 1), 3);
    RopeLedger late = KIT.sound(TWO + "debt a b 50 0 99;debt b a 80 0 99;debt a b 80 0 99;");
    int[] want = {0, 1, 2};
    for (int k = 0; k < want.length; k++) {
      KIT.due("to and fro", late.order(7, 0, k), want[k]);
    }
    KIT.due("80 of 50", late.order(6, 0, 0), -2);
  }

  private static void ordersOfTwelve() {
    RopeLedger x = KIT.sound(TWO + "debt a b 1 0 99;".repeat(10));
    x.tie(0, 1, 1, 99);
    KIT.due("eleven, the last", x.order(2047, 0, 10), 10);
    KIT.due("eleven, a twelfth", x.order(2047, 0, 11), -2);
    KIT.due("no such strand", x.order(2048, 0, 0), -1);
    x.tie(0, 1, 1, 99);
    for (int k = 0; k < 12; k++) {
      KIT.due("twelve, k " + k, x.order(4095, 0, k), k);
    }
    KIT.due("there are no so many", x.order(4095, 0, 12), -2);
    KIT.due("it bears nothing at last", x.order(4095, 1, 0), -2);
    KIT.due("the last alone", x.order(2048, 11, 0), 11);
    KIT.due("no such strand", x.order(4096, 0, 0), -1);
    KIT.due("no such strand", x.order(6144, 0, 0), -1);
  }

  /** What was tried in vain is found again from many sides; b can pay 60 behind 40, and 90 only behind 60 comes back. */
  private static void ordersThatTurnBack() {
    RopeLedger x = KIT.sound("person a east 60 1;person b west 0 1;debt b a 60 0 99;debt b a 1 0 99;debt b a 1 0 99;debt b a 1 0 99;"
        + "debt b a 1 0 99;debt b a 1 0 99;debt a b 60 0 99;debt a b 5 0 99;");
    int[] want = {6, 0, 7, 1, 2, 3, 4, 5};
    for (int k = 0; k < want.length; k++) {
      KIT.due("order(255), k " + k, x.order(255, 0, k), want[k]);
    }
    KIT.due("without the 60 that comes back", x.order(254, 0, 0), 6);
    KIT.due("without the 60 that comes back: 5 is too much then", x.order(254, 0, 7), -2);
    KIT.due("1 is paid back five times, so 5 can be paid", x.order(254, 0, 6), 7);
    RopeLedger never = KIT.sound("person a east 60 1;person b west 0 1;" + "debt a b 5 0 99;".repeat(9) + "debt b a 46 0 99;");
    KIT.due("45 for 46, by any of many ways", never.order(1023, 0, 0), -2);
    KIT.due("without it", never.order(511, 0, 8), 8);
  }

  /** All orders of eleven would take minutes each; what was tried in vain must not be tried again. */
  private static void ordersThatNeverCome() {
    RopeLedger x = KIT.sound("person a east 11 1;person b west 0 1;" + "debt a b 1 0 99;".repeat(9) + "debt b a 12 0 99;plank 1;law bear owed"
        + "+0".repeat(31) + ";");
    x.tie(0, 1, 1, 99);
    x.tie(0, 1, 1, 99);
    KIT.due("11 for 12, whatever comes first", x.order(4095, 0, 0), -2);
    KIT.due("11 for 12, with a load", x.order(4095, 1, 11), -2);
    KIT.due("without the 12", x.order(4095 - 512, 1, 10), 11);
  }

  /** Each order asked is the first that a search without shortcuts finds, most of them only behind much turning back. */
  private static void ordersByAPlainSearch() {
    Random random = new Random(18);
    int turned = 0;
    for (int round = 0; round < 20000; round++) {
      PlainOrder plain = new PlainOrder(random);
      boolean can = plain.search(0xff0);
      boolean much = can && plain.turns > 40;
      if (!much && round % 400 != 0) {
        continue;
      }
      turned += much ? 1 : 0;
      RopeLedger x = plain.told();
      for (int k = 0; k < 8; k++) {
        KIT.due("round " + round + ": order(4080, " + plain.load + ", " + k + ")", x.order(0xff0, plain.load, k), can ? plain.order.get(k) : -2);
      }
    }
    KIT.due("how many behind much turning back: " + turned, turned > 50, true);
  }

  /** Four persons, each with a strand that stays and bears what its purse is modulo 7; eight debts that bear nothing are to be paid. */
  private static final class PlainOrder {
    private static final String[] NAMES = {"a", "b", "c", "d"};
    final int[] told = new int[4];
    final int[] purse;
    final int[] from = new int[12];
    final int[] to = new int[12];
    final int[] owed = new int[12];
    final int load;
    final List<Integer> order = new ArrayList<>();
    int turns;

    PlainOrder(Random random) {
      for (int i = 0; i < 4; i++) {
        told[i] = 40 + random.nextInt(60);
      }
      purse = told.clone();
      for (int i = 4; i < 12; i++) {
        from[i] = random.nextInt(4);
        to[i] = 1 - from[i] % 2 + 2 * random.nextInt(2);
        owed[i] = 1 + random.nextInt(40);
      }
      load = 12 + random.nextInt(4);
    }

    RopeLedger told() {
      StringBuilder text = new StringBuilder();
      for (int i = 0; i < 4; i++) {
        text.append("person " + NAMES[i] + (i % 2 == 0 ? " east " : " west ") + told[i] + " 1;");
      }
      text.append("debt a b 999 0 99;debt b a 999 0 99;debt c d 999 0 99;debt d c 999 0 99;");
      for (int i = 4; i < 10; i++) {
        text.append("debt " + NAMES[from[i]] + " " + NAMES[to[i]] + " " + owed[i] + " 0 99;");
      }
      RopeLedger x = KIT.sound(text.append("law bear (owed = 999) * (rich - rich / 7 * 7);").toString());
      x.tie(from[10], to[10], owed[10], 99);
      x.tie(from[11], to[11], owed[11], 99);
      return x;
    }

    boolean search(int bits) {
      if (bits == 0) {
        return true;
      }
      for (int i = 4; i < 12; i++) {
        if ((bits >> i & 1) == 0 || purse[from[i]] < owed[i]) {
          continue;
        }
        pay(i, owed[i]);
        order.add(i);
        if (purse[0] % 7 + purse[1] % 7 + purse[2] % 7 + purse[3] % 7 >= load && search(bits & ~(1 << i))) {
          return true;
        }
        order.remove(order.size() - 1);
        pay(i, -owed[i]);
        turns++;
      }
      return false;
    }

    private void pay(int i, int much) {
      purse[from[i]] -= much;
      purse[to[i]] += much;
    }
  }

  /** "a load 1 .. 9999; 0: it BEARS less now); -2: by none; NONE: no such load." */
  private static void dropsAsked() {
    KIT.due("of nothing", new RopeLedger().drop(1), 0);
    KIT.due("of nothing", new RopeLedger().drop(9999), 0);
    KIT.due("of nothing", new RopeLedger().drop(0), -1);
    RopeLedger x = KIT.sound(TWO + "debt a b 9999 0 99;".replace("9999", "999") + "law bear 9999;");
    int[] wrong = {0, -1, 10000, 10001, Integer.MIN_VALUE, Integer.MAX_VALUE};
    for (int load : wrong) {
      KIT.due("drop(" + load + ")", x.drop(load), -1);
    }
    int[] right = {1, 2, 9998, 9999};
    for (int load : right) {
      KIT.due("drop(" + load + ")", x.drop(load), 1);
    }
    RopeLedger plank = KIT.sound("plank 999;");
    KIT.due("by none", plank.drop(1), -2);
    KIT.due("by none", plank.drop(999), -2);
    KIT.due("it bears less now", plank.drop(1000), 0);
  }

  private static void dropsAtLoads() {
    RopeLedger x = KIT.sound(TWO + "debt a b 10 0 99;debt b a 20 0 99;debt a b 30 0 99;debt b a 5 0 99 painted;plank 7;");
    String before = Kit.all(x);
    int[][] rows = {{68, 0}, {67, 1}, {58, 1}, {57, 2}, {48, 2}, {47, 4}, {38, 4}, {37, 5}, {28, 5}, {27, 6}, {18, 6}, {17, 7}, {8, 7}, {7, -2}, {1, -2}};
    for (int[] row : rows) {
      KIT.due("drop(" + row[0] + ")", x.drop(row[0]), row[1]);
    }
    KIT.stays("drop()", Kit.all(x), before);
    RopeLedger alike = KIT.sound(TWO + "debt a b 10 0 99;".repeat(4));
    KIT.due("40: one, the least", alike.drop(40), 1);
    KIT.due("31: one, the least", alike.drop(31), 1);
    KIT.due("30: two", alike.drop(30), 3);
    KIT.due("10: four", alike.drop(10), 15);
    alike.forgive(0);
    KIT.due("of those there", alike.drop(30), 2);
    KIT.due("of those there", alike.drop(1), 14);
    RopeLedger heavy = KIT.sound(TWO + "debt a b 1 0 99;debt a b 1 0 99;debt a b 50 0 99;");
    KIT.due("one of more bits is fewer than two", heavy.drop(51), 4);
    KIT.due("51 is borne without 0", heavy.drop(52), 1);
  }

  private static void dropsOfTwelve() {
    RopeLedger x = KIT.sound(TWO + "debt a b 10 0 99;".repeat(10) + "plank 3;");
    x.tie(0, 1, 10, 99);
    x.tie(0, 1, 90, 99);
    KIT.due("all twelve", x.drop(4), 4095);
    KIT.due("eleven: the last of 10 is left", x.drop(14), 4095 - 1024);
    KIT.due("one of 10 is left: 13", x.drop(13), 4095);
    KIT.due("the last alone", x.drop(114), 2048);
    KIT.due("the first alone", x.drop(203), 1);
    KIT.due("by none", x.drop(3), -2);
    x.forgive(11);
    KIT.due("eleven are there", x.drop(4), 2047);
  }

  /** A twist is cut with one of it; without its partner a strand bears as alone, by a law even more. */
  private static void dropsOfTwists() {
    RopeLedger x = KIT.sound(TWO + "debt a b 10 0 99;debt b a 21 0 99;debt a b 30 0 99;twist 0 1;");
    KIT.due("it bears 76", x.drop(77), 0);
    KIT.due("without 0: 51", x.drop(76), 1);
    KIT.due("without 0: 51", x.drop(52), 1);
    KIT.due("without 1: 40", x.drop(51), 2);
    KIT.due("without 1: 40", x.drop(41), 2);
    KIT.due("without 0 and 1: 30", x.drop(40), 3);
    KIT.due("without 0 and 1: 30", x.drop(31), 3);
    KIT.due("without 0 and 2: 21", x.drop(30), 5);
    RopeLedger y = KIT.sound(TWO + "debt a b 10 0 99;debt b a 10 0 99;debt a b 1 0 99;twist 0 1;law bear owed * (1 - two) * 9 + owed;");
    KIT.due("30 and 10", y.bears(), 40);
    KIT.due("without 0 it would bear 110", y.drop(40), 4);
    KIT.due("30 is left", y.drop(31), 4);
    KIT.due("two of three", y.drop(30), 3);
    KIT.due("two of three", y.drop(11), 3);
    KIT.due("three", y.drop(10), 7);
  }

  /** "LOAN (a load 1 .. 9999; 0: it BEARS that now); -2: by none; NONE: no such load." */
  private static void loansAsked() {
    RopeLedger x = KIT.sound(TWO + "debt a b 10 0 99;plank 7;");
    String before = Kit.all(x);
    int[] wrong = {0, -1, 10000, 10001, Integer.MIN_VALUE, Integer.MAX_VALUE};
    for (int load : wrong) {
      KIT.due("loan(" + load + ")", x.loan(load), -1);
    }
    int[][] rows = {{1, 0}, {16, 0}, {17, 0}, {18, 1}, {19, 2}, {1015, 998}, {1016, 999}, {1017, -2}, {9998, -2}, {9999, -2}};
    for (int[] row : rows) {
      KIT.due("loan(" + row[0] + ")", x.loan(row[0]), row[1]);
    }
    KIT.stays("loan()", Kit.all(x), before);
    KIT.due("of nothing", new RopeLedger().loan(1), 1);
    KIT.due("of nothing", new RopeLedger().loan(999), 999);
    KIT.due("of nothing", new RopeLedger().loan(1000), -2);
  }

  private static void loansAtLoads() {
    RopeLedger full = KIT.sound(TWO + "debt a b 1 0 99;".repeat(10));
    full.tie(0, 1, 1, 1);
    full.tie(0, 1, 1, 1);
    KIT.due("one more than twelve can be asked", full.loan(13), 1);
    RopeLedger times = KIT.sound(TWO + "law bear owed * 11;");
    KIT.due("9998", times.loan(9998), 909);
    KIT.due("9999", times.loan(9999), 909);
    KIT.due("9988", times.loan(9988), 908);
    RopeLedger most = KIT.sound(TWO + "law bear owed * 1000;plank 1;");
    KIT.due("9999 at most, and the plank", most.loan(9999), 10);
    RopeLedger least = KIT.sound(TWO + "law bear owed - 500;");
    KIT.due("nothing at least", least.loan(1), 501);
    KIT.due("999", least.loan(499), 999);
    KIT.due("by none", least.loan(500), -2);
    RopeLedger strong = KIT.sound(TWO + "debt a b 1 0 99;law bear 9999;");
    KIT.due("it bears that", strong.loan(9999), 0);
    RopeLedger capped = KIT.sound(TWO + "debt a b 1 0 99;law bear 4999;");
    KIT.due("4999 and 4999", capped.loan(9998), 1);
    KIT.due("not 9999", capped.loan(9999), -2);
  }

  /** "not FRAYED, of AGE 0, DUE in 99, of a PERSON with PURSE 0"; the YEAR is as it is, two is 0. */
  private static void loansByLaw() {
    String[] zero = {"frayed", "age", "rich", "two"};
    for (String name : zero) {
      RopeLedger x = KIT.sound(TWO + "debt a b 9 9 9;debt a b 9 9 9;twist 0 1;law bear (" + name + " = 0) * 7;law fray 0;");
      x.years(1);
      int now = x.bears();
      KIT.due(name + " is 0", x.loan(now + 7), 1);
      KIT.due(name + " is 0", x.loan(now + 8), -2);
    }
    RopeLedger due = KIT.sound(TWO + "law bear due;");
    KIT.due("due in 99", due.loan(99), 1);
    KIT.due("due in 99", due.loan(100), -2);
    RopeLedger year = KIT.sound(TWO + "law bear year;");
    year.years(8);
    KIT.due("in year 8", year.loan(8), 1);
    KIT.due("in year 8", year.loan(9), -2);
    RopeLedger error = KIT.sound(TWO + "law bear 5/(owed-300);");
    KIT.due("owed 299 bears 0, 300 by an error 300", error.loan(6), 300);
    KIT.due("300", error.loan(300), 300);
    KIT.due("301", error.loan(301), -2);
    KIT.due("5 by 1: 5 behind it", error.loan(5), 300);
  }

  /** "STRIKE; NONE: no such ones, alike." */
  private static void strikesAsked() {
    KIT.due("of nobody", new RopeLedger().strike(0, 1), -1);
    RopeLedger x = KIT.sound(TWO + "person c east 1 1;debt a b 10 0 99;debt a b 5 98 99;debt b a 9 0 99;debt b a 7 0 99;debt b c 4 0 99;");
    String before = Kit.all(x);
    for (int i = -1; i <= 3; i++) {
      boolean such = i >= 0 && i < 3;
      KIT.due("alike", x.strike(i, i), -1);
      KIT.due("-1 and " + i, x.strike(-1, i), -1);
      KIT.due(i + " and 3", x.strike(i, 3), -1);
      KIT.due(i + " and -1", x.strike(i, -1), -1);
      KIT.due("3 and " + i, x.strike(3, i), -1);
      KIT.due("b and " + i, x.strike(1, i), such && i != 1 ? (i == 0 ? 15 : 0) : -1);
    }
    for (int far : FAR) {
      KIT.due("far", x.strike(far, 0), -1);
      KIT.due("far", x.strike(0, far), -1);
    }
    KIT.due("of one side", x.strike(0, 2), 0);
    KIT.stays("strike()", Kit.all(x), before);
    x.years(1);
    KIT.due("10 and 16: 5 snapped", x.strike(0, 1), 10);
    x.forgive(3);
    KIT.due("10 and 9", x.strike(0, 1), 9);
    x.pay(2);
    KIT.due("10 and nothing", x.strike(0, 1), 0);
    KIT.due("10 and nothing", x.strike(1, 0), 0);
  }

  /** "TWISTS (k 0 .. 5): what it BEARS; NONE: no such k." */
  private static void twistsAsked() {
    RopeLedger x = KIT.sound(TWO + "debt a b 10 0 99;debt a b 20 0 99;debt b a 30 0 99;twist 0 1;plank 7;");
    String before = Kit.all(x);
    int[] wrong = {-1, -2, 6, 7, Integer.MIN_VALUE, Integer.MAX_VALUE};
    for (int k : wrong) {
      KIT.due("twists(" + k + ")", x.twists(k), -1);
      KIT.due("partner(" + k + ", 0)", x.partner(k, 0), -1);
    }
    KIT.due("all undone", x.twists(0), 67);
    for (int k = 1; k <= 5; k++) {
      KIT.due("20 and 30", x.twists(k), 92);
    }
    KIT.stays("twists()", Kit.all(x), before);
    RopeLedger two = KIT.sound(TWO + "debt a b 10 0 99;debt a b 20 0 99;twist 0 1;law bear owed + two * 100;");
    KIT.due("each bears as told now, two: 0", two.twists(0), 30);
    KIT.due("each bears as told now, two: 0", two.twists(5), 45);
  }

  private static void twistsOfFew() {
    for (int k = 0; k <= 5; k++) {
      KIT.due("of nothing", new RopeLedger().twists(k), 0);
      KIT.due("of a plank", KIT.sound("plank 9;").twists(k), 9);
      RopeLedger one = KIT.sound(TWO + "debt a b 9 0 99;");
      KIT.due("of one", one.twists(k), 9);
      KIT.due("of one", one.partner(k, 0), -2);
      RopeLedger two = KIT.sound(TWO + "debt a b 1 0 99;debt a b 2 0 99;debt a b 9 0 99;");
      two.forgive(2);
      KIT.due("of two there: 3 and 1", two.twists(k), k == 0 ? 3 : 4);
      KIT.due("of two there", two.partner(k, 0), k == 0 ? -2 : 1);
      KIT.due("of two there", two.partner(k, 1), k == 0 ? -2 : 0);
      KIT.due("it isn't there", two.partner(k, 2), -1);
    }
    RopeLedger one = KIT.sound(TWO + "debt a b 1 0 99;debt a b 1 0 99 painted;");
    KIT.due("1 and 0: half of 1 is cut", one.twists(1), 1);
    KIT.due("none ahead of strands", one.partner(1, 0), -2);
  }

  private static void twistsOfTwelve() {
    RopeLedger x = KIT.sound(TWO + "debt a b 2 0 99;".repeat(10));
    x.tie(0, 1, 2, 99);
    x.tie(1, 0, 2, 99);
    for (int k = 0; k <= 5; k++) {
      KIT.due("twists(" + k + ")", x.twists(k), 24 + 2 * k);
      for (int i = 0; i < 12; i++) {
        int alone = 12 - 2 * k;
        int want = i < alone ? -2 : i % 2 == 0 ? i + 1 : i - 1;
        KIT.due("partner(" + k + ", " + i + ")", x.partner(k, i), want);
      }
    }
    RopeLedger odd = KIT.sound(TWO + "debt a b 3 0 99;debt a b 4 0 99;debt a b 3 0 99;debt a b 4 0 99;debt a b 3 0 99;");
    KIT.due("4 and 4", odd.twists(1), 17 + 4);
    KIT.due("4 and 4, 3 and 3", odd.twists(2), 17 + 7);
    KIT.due("the first 3 is alone", odd.partner(2, 0), -2);
    KIT.due("4 with 4", odd.partner(2, 1), 3);
    KIT.due("3 with 3", odd.partner(2, 2), 4);
    KIT.due("no third", odd.twists(3), 17 + 7);
  }

  /** "-2: none; NONE: no such ones, it isn't there." */
  private static void partnersAsked() {
    KIT.due("of nothing", new RopeLedger().partner(0, 0), -1);
    RopeLedger x = KIT.sound(TWO + "debt a b 10 0 99;debt a b 20 98 99;debt b a 15 0 99;debt a b 5 0 99;debt a b 6 0 99;");
    x.years(1);
    x.pay(2);
    x.forgive(0);
    String before = Kit.all(x);
    int[] gone = {0, 1, 2, -1, 5, 12, Integer.MIN_VALUE, Integer.MAX_VALUE};
    for (int i : gone) {
      KIT.due("partner(1, " + i + ")", x.partner(1, i), -1);
    }
    KIT.due("k 0", x.partner(0, 3), -2);
    KIT.due("k 1", x.partner(1, 3), 4);
    KIT.due("k 5", x.partner(5, 4), 3);
    KIT.due("k 6", x.partner(6, 4), -1);
    KIT.due("k -1", x.partner(-1, 4), -1);
    KIT.stays("partner()", Kit.all(x), before);
  }

  /** "by which the partners are first: none ahead of STRANDS, by STRANDS in order". */
  private static void partnersFirst() {
    partners("4 with 4, the later two", 1, new int[] {4, 4, 4}, -2, 2, 1);
    partners("any two of four", 1, new int[] {2, 2, 2, 2}, -2, -2, 3, 2);
    partners("all four: 0 with 1", 2, new int[] {2, 2, 2, 2}, 1, 0, 3, 2);
    partners("0 with 2: 3 and 5 are even", 2, new int[] {3, 4, 5, 6}, 2, 3, 0, 1);
    partners("0 with 1 is 3, but 3 and 5 are even", 2, new int[] {3, 3, 5, 5}, 1, 0, 3, 2);
    partners("one odd pair can't be helped: 0 with 1", 2, new int[] {3, 4, 4, 4}, 1, 0, 3, 2);
    partners("5 with 3 bears as much as 5 with 4, and 4 is alone", 1, new int[] {4, 4, 5}, -2, 2, 1);
    partners("the heaviest come last", 2, new int[] {1, 9, 8, 7, 6}, -2, 3, 4, 1, 2);
    partners("a 1 adds nothing to an even one", 2, new int[] {1, 4, 4}, -2, 2, 1);
    partners("a 1 adds to an odd one", 1, new int[] {1, 5}, 1, 0);
    partners("1 and 1 add 1", 3, new int[] {1, 1, 6, 6}, 1, 0, 3, 2);
    partners("6 is enough for 1 to be alone", 1, new int[] {1, 1, 6, 6}, -2, -2, 3, 2);
    partners("one of two twists is made, one is left: 4 and 4", 2, new int[] {9, 9, 1, 4, 4, 1, 1}, 1, 0, -2, 4, 3, -2, -2);
    partners("two of three twists are made, one is left: 4 and 4", 3, new int[] {9, 9, 8, 8, 1, 4, 4, 1, 1}, 1, 0, 3, 2, -2, 6, 5, -2, -2);
  }

  /** A strand that was tied and undone is in none of the sums, whatever was asked while it stood. */
  private static void whatWasUndoneWeighsNothing() {
    RopeLedger x = KIT.sound(TWO + "debt a b 10 0 99;debt a b 20 0 99;twist 0 1;plank 1;");
    for (int round = 0; round < 2; round++) {
      KIT.due("without it", x.twists(0), 31);
      KIT.due("without it", x.twists(1), 46);
      KIT.due("without it", x.twists(5), 46);
      KIT.due("without it", x.drop(47), 0);
      KIT.due("without it", x.drop(46), 1);
      KIT.due("without it", x.drop(2), 3);
      KIT.due("without it", x.loan(47), 1);
      KIT.due("without it", x.strike(0, 1), 0);
      KIT.due("without it", x.rests(30), 2);
      KIT.due("without it", x.partner(1, 0), 1);
      x.tie(1, 0, 300, 99);
      x.twist(1, 2);
      KIT.due("with it", x.twists(0), 331);
      KIT.due("with it", x.twists(1), 331 + 160);
      KIT.due("with it", x.partner(1, 0), -2);
      KIT.due("with it", x.drop(491), 1);
      KIT.due("with it", x.drop(481), 2);
      KIT.due("with it", x.loan(492), 1);
      KIT.due("with it", x.strike(0, 1), 30);
      KIT.due("with it", x.rests(30), 1);
      x.undo();
      KIT.due("undone", x.undo(), 0);
    }
  }

  private static void partners(String why, int k, int[] owed, int... want) {
    StringBuilder text = new StringBuilder(TWO);
    for (int n : owed) {
      text.append("debt a b ").append(n).append(" 0 99;");
    }
    RopeLedger x = KIT.sound(text.toString());
    for (int i = 0; i < want.length; i++) {
      KIT.due(why + ": partner(" + k + ", " + i + ")", x.partner(k, i), want[i]);
    }
  }

  /** "LIFE; NONE: no such STRAND"; "0: it isn't". */
  private static void livesAsked() {
    KIT.due("of nothing", new RopeLedger().life(0), -1);
    RopeLedger x = KIT.sound(TWO + "debt a b 10 0 99;debt a b 20 98 99;debt b a 15 0 99;debt a b 5 0 2;cross a 0 0;plank 99;");
    x.years(1);
    x.pay(2);
    x.forgive(0);
    String before = Kit.all(x);
    int[] none = {-1, 4, 5, 12, Integer.MIN_VALUE, Integer.MAX_VALUE};
    for (int i : none) {
      KIT.due("life(" + i + ")", x.life(i), -1);
    }
    KIT.due("forgiven", x.life(0), 0);
    KIT.due("snapped", x.life(1), 0);
    KIT.due("paid", x.life(2), 0);
    KIT.due("due in 2, it is 1", x.life(3), 2);
    KIT.stays("life()", Kit.all(x), before);
    x.years(1);
    KIT.due("due in 2, it is 2", x.life(3), 1);
    x.years(1);
    KIT.due("it is paid", x.life(3), 0);
  }

  /** "99 at most". */
  private static void livesTo99() {
    for (int frayed = 0; frayed <= 3; frayed++) {
      RopeLedger x = KIT.sound(TWO + "debt a b 90 " + frayed + " 99;law fray 1;");
      KIT.due("one a year from " + frayed, x.life(0), Math.min(99, 100 - frayed));
    }
    RopeLedger last = KIT.sound(TWO + "debt a b 9 0 98;debt a b 9 0 99;debt a b 9 0 97;law fray 0;");
    KIT.due("paid in year 98", last.life(0), 99);
    KIT.due("paid in year 99", last.life(1), 99);
    KIT.due("paid in year 97", last.life(2), 98);
    RopeLedger soon = KIT.sound(TWO + "debt a b 90 99 99;debt a b 90 98 99;debt a b 90 97 99;debt a b 9 0 0;");
    KIT.due("snaps in the first year", soon.life(0), 1);
    KIT.due("snaps in the first year", soon.life(1), 1);
    KIT.due("snaps in the second year", soon.life(2), 2);
    KIT.due("is paid in the first year", soon.life(3), 1);
  }

  /** "AHEAD (n 0 .. 99); -2: there is none; NONE: no such n." */
  private static void aheadsAsked() {
    RopeLedger x = KIT.sound(TWO + "cross a 99 0;cross a 0 1;plank 50;");
    String before = Kit.all(x);
    int[] wrong = {-1, -2, 100, 101, Integer.MIN_VALUE, Integer.MAX_VALUE};
    for (int n : wrong) {
      KIT.due("ahead(" + n + ")", x.ahead(n), -1);
      KIT.due("of nothing ahead(" + n + ")", new RopeLedger().ahead(n), -1);
    }
    KIT.due("ahead(0)", x.ahead(0), -2);
    KIT.due("ahead(1)", x.ahead(1), 0);
    KIT.due("ahead(98)", x.ahead(98), 0);
    KIT.due("ahead(99)", x.ahead(99), 0);
    KIT.due("of nothing", new RopeLedger().ahead(0), -2);
    KIT.due("of nothing", new RopeLedger().ahead(99), -2);
    KIT.stays("ahead()", Kit.all(x), before);
    x.years(1);
    KIT.due("what was refused isn't ahead", x.ahead(99), -2);
    KIT.due("refused", x.crossing(0, 3), 2);
  }

  /** "the first CROSSING that is REFUSED as it goes": by years, then by numbers. */
  private static void aheadsByYears() {
    RopeLedger x = KIT.sound(TWO + "cross a 99 99;cross a 99 98;cross a 99 5;cross b 99 5;cross a 98 4;cross a 40 3;plank 50;debt a b 59 0 4;law fray 0;");
    KIT.due("108 by 109", x.ahead(4), -2);
    KIT.due("108 by 109", x.ahead(5), -2);
    KIT.due("109 by 109: it isn't paid yet, 119 by 109", x.ahead(6), 3);
    x.forgive(0);
    KIT.due("50 by 50", x.ahead(4), -2);
    KIT.due("108 by 50", x.ahead(5), 4);
    x.years(5);
    KIT.due("109 by 50", x.ahead(1), 2);
    x.years(1);
    KIT.due("98 is 93 years off", x.ahead(92), -2);
    KIT.due("98 is 93 years off", x.ahead(93), 1);
    x.years(93);
    KIT.due("in year 99", x.ahead(0), -2);
    KIT.due("in year 99", x.ahead(1), 0);
    RopeLedger far = KIT.sound(TWO + "cross a 99 99;");
    KIT.due("99 years are years 0 to 98", far.ahead(99), -2);
    far.years(1);
    KIT.due("99 years are years 1 to 99", far.ahead(99), 0);
    KIT.due("98 years aren't enough", far.ahead(98), -2);
  }
}
