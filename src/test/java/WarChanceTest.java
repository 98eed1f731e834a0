/** Promises 31 to 34: rests, rest, chance, tried. */
public final class WarChanceTest {
  private static final Kit KIT = new Kit("WarChanceTest");
  private static final String TWO = "person a east 50 10;person b west 30 20;";

  public static void main(String[] args) {
    wars();
    warsOfOneStrand();
    chances();
    chanceOfNothing();
    tries();
    KIT.end();
  }

  private static void wars() {
    RopeLedger x = KIT.told(TWO + "debt a b 40 0 9;debt b a 30 0 9;", 4);
    KIT.due("worth 0: both cut", x.rests(0), 1);
    KIT.due("worth 0: both cut", x.rest(0, 0), 11);
    KIT.due("worth 30: west cuts, east would lose 30 by keeping", x.rests(30), 2);
    KIT.due("east cuts, west keeps: 30 or 30", x.rest(30, 0), 10);
    KIT.due("both", x.rest(30, 1), 11);
    KIT.due("worth 35", x.rests(35), 1);
    KIT.due("east cuts, west keeps", x.rest(35, 0), 10);
    KIT.due("worth 40", x.rests(40), 2);
    KIT.due("west cuts: east has 40 or 40", x.rest(40, 0), 1);
    KIT.due("east cuts: west has 30 or 40", x.rest(40, 1), 10);
    KIT.due("no more", x.rest(40, 2), -2);
    KIT.due("k", x.rest(40, -1), -1);
    KIT.due("worth", x.rest(-1, 0), -1);
    KIT.due("worth", x.rest(10000, 0), -1);
    KIT.due("worth", x.rests(-1), -1);
    KIT.due("worth", x.rests(10000), -1);
    KIT.due("worth 9999", x.rests(9999), 2);
    KIT.due("nothing is cut", x.count(2), 2);
    x.forgive(0);
    KIT.due("east owes nothing: the way is west's", x.rests(31), 2);
    KIT.due("east may do either", x.rest(31, 0), 0);
    KIT.due("east may do either", x.rest(31, 1), 10);
    x = KIT.told(TWO + "debt a b 40 0 9;plank 1;", 4);
    KIT.due("the plank keeps the way: east cuts, west may do either", x.rests(9999), 2);
    KIT.due("first", x.rest(9999, 0), 10);
    KIT.due("second", x.rest(9999, 1), 11);
  }

  private static void warsOfOneStrand() {
    RopeLedger x = KIT.told(TWO + "debt b a 5 0 9;debt b a 6 0 9 painted;cross b 1 0;", 5);
    KIT.due("west has 11 by cutting", x.rests(10), 2);
    KIT.due("west cuts", x.rest(10, 0), 1);
    KIT.due("west keeps for 12", x.rest(12, 0), 0);
    KIT.due("11 or 11: all four", x.rests(11), 4);
    x.cross(1, 0);
    KIT.due("of the side that is its own", x.rest(10, 0), 1);
  }

  /** Numbers from seed 0 on, as the document makes them. */
  private static int[] numbers(long seed, int n) {
    int[] row = new int[n];
    for (int i = 0; i < n; i++) {
      seed = seed * 1103515245L + 12345 & (1L << 31) - 1;
      row[i] = (int) (seed / 65536);
    }
    return row;
  }

  private static void chances() {
    RopeLedger x = KIT.told("plank 5;", 1);
    for (int seed = 0; seed < 50; seed++) {
      int weddings = 0;
      for (int number : numbers(seed, 10)) {
        weddings += number % 10 == 0 ? 1 : 0;
      }
      KIT.due("a wedding in one year, seed " + seed, x.chance(seed, 1, 10), weddings);
      KIT.due("always", x.chance(seed, 1, 5), 10);
      KIT.due("never two", x.chance(seed, 1, 11), 0);
    }
    RopeLedger y = KIT.told(TWO + "debt a b 100 0 99;debt b a 100 69 99;law fray 0;", 5);
    for (int seed = 0; seed < 300; seed++) {
      int[] row = numbers(seed, 20);
      int whole = 0;
      int at = 0;
      for (int i = 0; i < 10; i++) {
        int number = row[at++] % 10;
        int rotten = number == 1 ? row[at++] % 2 : -1;
        whole += number == 0 || rotten == -1 ? 1 : 0;
      }
      KIT.due("no rot in one year, seed " + seed, y.chance(seed, 1, 131), whole);
    }
    KIT.due("the largest seed", x.chance(2147483647, 30, 0), 10);
    KIT.due("seed", x.chance(-1, 1, 0), -1);
    KIT.due("n", x.chance(0, 0, 0), -1);
    KIT.due("n", x.chance(0, 31, 0), -1);
    KIT.due("bound", x.chance(0, 1, -1), -1);
    KIT.due("bound", x.chance(0, 1, 10000), -1);
    KIT.due("bound", x.chance(0, 1, 9999), 0);
    KIT.due("nothing went by", x.count(10), 0);
    KIT.due("plank", x.count(12), 5);
  }

  /** Without strands a rot draws no second number; a rot of one that is gone does nothing but draws it. */
  private static void chanceOfNothing() {
    RopeLedger x = KIT.told(TWO, 2);
    RopeLedger y = KIT.told(TWO + "debt a b 9 0 99;", 3);
    y.forgive(0);
    for (int seed = 0; seed < 200; seed++) {
      int[] row = numbers(seed, 40);
      int without = 0;
      int with = 0;
      int at = 0;
      for (int i = 0; i < 10; i++) {
        without += row[2 * i] % 10 == 0 || row[2 * i + 1] % 10 == 0 ? 1 : 0;
        boolean wedding = false;
        for (int year = 0; year < 2; year++) {
          int number = row[at++] % 10;
          wedding |= number == 0;
          at += number == 1 ? 1 : 0;
        }
        with += wedding ? 1 : 0;
      }
      KIT.due("without strands, seed " + seed, x.chance(seed, 2, 5), without);
      KIT.due("with one that is gone, seed " + seed, y.chance(seed, 2, 5), with);
    }
  }

  private static void tries() {
    RopeLedger x = KIT.told(TWO + "debt a b 40 0 1;debt a b 20 10 9;debt b a 60 0 99 painted;law fray 5;law rent 2;", 7);
    KIT.due("as it is: 44 and 24 - 4, paid: 24 - 4", x.tried(0, 0, 0), 58);
    KIT.due("nothing frays: 24 less 2", x.tried(0, 0, 2), 22);
    KIT.due("nobody pays: 44 less 4, 24 less 4", x.tried(1, 0, 2), 60);
    KIT.due("0 is gone: a has 50 left", x.tried(2, 0, 2), 20);
    KIT.due("1 is gone", x.tried(2, 1, 0), 40);
    KIT.due("none is painted: 20 and 64 less 6", x.tried(3, 0, 2), 78);
    KIT.due("no rent: 20 less 4", x.tried(4, 0, 2), 16);
    KIT.due("what", x.tried(5, 0, 0), -1);
    KIT.due("what", x.tried(-1, 0, 0), -1);
    KIT.due("i", x.tried(0, 1, 0), -1);
    KIT.due("i", x.tried(1, -1, 0), -1);
    KIT.due("i", x.tried(3, 1, 0), -1);
    KIT.due("i", x.tried(4, 1, 0), -1);
    KIT.due("i", x.tried(2, 3, 0), -1);
    KIT.due("i", x.tried(2, -1, 0), -1);
    KIT.due("n", x.tried(0, 0, -1), -1);
    KIT.due("n", x.tried(0, 0, 51), -1);
    KIT.due("n", x.tried(0, 0, 50), 20 + 100 - 12);
    KIT.due("nothing went by", x.count(10), 0);
    KIT.due("nothing is gone", x.count(2), 3);
    x = KIT.told(TWO + "debt a b 40 0 1 painted;debt a b 20 0 9 painted;", 4);
    KIT.due("none of several is painted", x.tried(3, 0, 0), 60);
    KIT.due("they are still", x.bears(), 0);
    x.forgive(1);
    KIT.due("one that isn't there is gone already", x.tried(2, 1, 0), 0);
  }
}
