/** Bounds of wars, of years by chance and of years tried otherwise (part 3), promises 31 to 34. */
public final class WarChanceBoundsTest {
  private static final Kit KIT = new Kit("WarChanceBoundsTest");
  private static final String TWO = "person a east 50 10;person b west 30 20;";
  private static final int[] FAR = {Integer.MIN_VALUE, -1000, 1 << 20, Integer.MAX_VALUE};

  public static void main(String[] args) {
    warsAsked();
    restsByWorth();
    restsByWhatItBears();
    restsOfTwists();
    restsOfWhatIsThere();
    chanceAsked();
    chanceByBound();
    weddings();
    rots();
    rotsTo100();
    rotsOfManyStrands();
    rotsAheadOfTheYear();
    thirtyYears();
    triedAsked();
    triedStrands();
    triedByKind();
    triedFifty();
    KIT.end();
  }

  /** "NONE: no such worth"; 0 .. 9999; "-2: there are no so many; NONE: no such worth, k below 0". */
  private static void warsAsked() {
    RopeLedger x = KIT.sound(TWO + "debt a b 40 0 99;debt b a 30 0 99;");
    String before = Kit.all(x);
    int[] wrong = {-1, -2, 10000, 10001, Integer.MIN_VALUE, Integer.MAX_VALUE};
    for (int worth : wrong) {
      KIT.due("rests(" + worth + ")", x.rests(worth), -1);
      KIT.due("rest(" + worth + ", 0)", x.rest(worth, 0), -1);
      KIT.due("rest(" + worth + ", 9)", x.rest(worth, 9), -1);
    }
    KIT.due("rests(0)", x.rests(0), 1);
    KIT.due("rests(1)", x.rests(1), 1);
    KIT.due("rests(9998)", x.rests(9998), 2);
    KIT.due("rests(9999)", x.rests(9999), 2);
    KIT.due("k 0", x.rest(9999, 0), 1);
    KIT.due("k 1", x.rest(9999, 1), 10);
    KIT.due("k 2", x.rest(9999, 2), -2);
    KIT.due("k 3", x.rest(9999, 3), -2);
    KIT.due("k 4", x.rest(9999, 4), -2);
    KIT.due("k -1", x.rest(9999, -1), -1);
    for (int far : FAR) {
      KIT.due("k " + far, x.rest(0, far), far < 0 ? -1 : -2);
    }
    KIT.stays("rest()", Kit.all(x), before);
    RopeLedger none = new RopeLedger();
    KIT.due("of nothing", none.rests(0), 4);
    KIT.due("of nothing", none.rests(9999), 4);
    int[] all = {0, 1, 10, 11};
    for (int k = 0; k < 4; k++) {
      KIT.due("by what east does, then west", none.rest(9999, k), all[k]);
    }
    KIT.due("no fifth", none.rest(9999, 4), -2);
  }

  /** "neither would have more otherwise": at, just below and just above what each owes. */
  private static void restsByWorth() {
    String text = TWO + "debt a b 40 0 99;debt b a 30 0 99;";
    // worth below 30: both cut; 30: west may keep, too; to 39: east cuts; 40: east may keep, if west cuts; above: one of them cuts
    rests(text, 29, 11);
    rests(text, 30, 10, 11);
    rests(text, 31, 10);
    rests(text, 39, 10);
    rests(text, 40, 1, 10);
    rests(text, 41, 1, 10);
    String alike = TWO + "debt a b 40 0 99;debt b a 40 0 99;";
    rests(alike, 39, 11);
    rests(alike, 40, 1, 10, 11);
    rests(alike, 41, 1, 10);
    String sums = TWO + "person c east 1 1;debt a b 10 0 99;debt c b 15 0 99;debt b a 3 0 99;debt b c 4 0 99;";
    rests(sums, 6, 11);
    rests(sums, 7, 10, 11);
    rests(sums, 24, 10);
    rests(sums, 25, 1, 10);
  }

  private static void rests(String text, int worth, int... want) {
    RopeLedger x = KIT.sound(text);
    KIT.due("rests(" + worth + ") of " + text, x.rests(worth), want.length);
    for (int k = 0; k < want.length; k++) {
      KIT.due("rest(" + worth + ", " + k + ") of " + text, x.rest(worth, k), want[k]);
    }
    KIT.due("no more of " + text, x.rest(worth, want.length), -2);
  }

  /** "the worth, if the BRIDGE BEARS 1 at least then". */
  private static void restsByWhatItBears() {
    rests(TWO + "debt a b 40 0 99;debt b a 30 0 99;plank 1;", 9999, 11);
    rests(TWO + "debt a b 40 0 99;debt b a 30 0 99;plank 0;", 9999, 1, 10);
    rests(TWO + "debt a b 40 0 99;debt b a 30 0 99;law bear 0;", 9999, 11);
    rests(TWO + "debt a b 40 0 99;debt b a 30 0 99 painted;", 9999, 1);
    rests(TWO + "debt a b 40 0 99 painted;debt b a 30 0 99 painted;", 9999, 11);
    rests(TWO + "debt a b 1 99 99;", 9999, 0, 1);
    rests(TWO + "debt a b 1 99 99;", 1, 0, 1, 10, 11);
    rests(TWO + "debt a b 1 99 99;", 0, 10, 11);
  }

  /** A twist bears nothing as one, and its strands alone do; by a law the other way round. */
  private static void restsOfTwists() {
    rests(TWO + "debt a b 40 0 99;debt b a 30 0 99;twist 0 1;law bear 1 - two;", 50, 1, 10);
    rests(TWO + "debt a b 40 0 99;debt b a 30 0 99;twist 0 1;law bear two;", 50, 0, 11);
    rests(TWO + "debt a b 40 0 99;debt b a 30 0 99;twist 0 1;law bear two;", 20, 11);
    rests(TWO + "debt a b 40 0 99;debt b a 30 0 99;twist 0 1;law bear two * 9;", 9999, 0, 11);
  }

  private static void restsOfWhatIsThere() {
    RopeLedger x = KIT.sound(TWO + "debt a b 40 0 99;debt b a 30 98 99;debt b a 20 0 99;");
    x.years(1);
    KIT.due("30 snapped: 20 and 40", x.rests(20), 2);
    KIT.due("east cuts, west has 20 or 20", x.rest(20, 0), 10);
    x.forgive(2);
    KIT.due("west owes nothing", x.rests(41), 2);
    KIT.due("east keeps", x.rest(41, 0), 0);
    KIT.due("east keeps", x.rest(41, 1), 1);
    x.pay(0);
    KIT.due("nobody owes", x.rests(41), 4);
    KIT.due("nothing is cut", x.count(4), 1);
  }

  /** "a seed 0 .. 2147483647 ..; n 1 .. 30 YEARS; .. a bound 0 .. 9999; NONE: no such ones". */
  private static void chanceAsked() {
    RopeLedger x = KIT.sound(TWO + "debt a b 40 0 2;cross a 0 0;plank 7;seed 99999;");
    String before = Kit.all(x);
    int[][] wrong = {{-1, 1, 0}, {Integer.MIN_VALUE, 1, 0}, {0, 0, 0}, {0, -1, 0}, {0, 31, 0}, {0, 32, 0}, {0, Integer.MAX_VALUE, 0},
        {0, Integer.MIN_VALUE, 0}, {0, 1, -1}, {0, 1, 10000}, {0, 1, Integer.MAX_VALUE}, {0, 1, Integer.MIN_VALUE}, {-1, 0, -1}};
    for (int[] row : wrong) {
      KIT.due("chance" + java.util.Arrays.toString(row), x.chance(row[0], row[1], row[2]), -1);
    }
    int[][] right = {{0, 1, 0}, {1, 2, 1}, {2147483646, 29, 2}, {2147483647, 30, 7}};
    for (int[] row : right) {
      KIT.due("chance" + java.util.Arrays.toString(row), x.chance(row[0], row[1], row[2]), 10);
    }
    KIT.due("9998", x.chance(0, 1, 9998), 0);
    KIT.due("9999", x.chance(0, 30, 9999), 0);
    KIT.stays("chance()", Kit.all(x), before);
    KIT.due("of nothing", new RopeLedger().chance(5, 30, 0), 10);
    KIT.due("of 9999", KIT.sound(TWO + "debt a b 999 0 99;law bear 9999;law fray 0;").chance(0, 1, 9999), 10);
  }

  private static void chanceByBound() {
    RopeLedger x = KIT.sound("plank 50;");
    for (int seed = 0; seed < 20; seed++) {
      KIT.due("at least 49", x.chance(seed, 3, 49), 10);
      KIT.due("at least 50", x.chance(seed, 3, 50), 10);
      KIT.due("at least 65, and one more", x.chance(seed, 3, 66), 0);
      int[] weddings = weddings(seed, 3);
      for (int more = 1; more <= 15; more++) {
        int reached = 0;
        for (int n : weddings) {
          reached += 5 * n >= more ? 1 : 0;
        }
        KIT.due("seed " + seed + ", " + more + " more", x.chance(seed, 3, 50 + more), reached);
      }
    }
  }

  /** Where the numbers stand: all 31 bits go on, what is drawn is them by 65536. */
  private static final class Numbers {
    private long last;

    Numbers(long seed) {
      last = seed;
    }

    int next() {
      last = (last * 1103515245L + 12345L) % (1L << 31);
      return (int) (last / 65536);
    }
  }

  /** How many weddings each of ten times has, without strands. */
  private static int[] weddings(int seed, int n) {
    Numbers numbers = new Numbers(seed);
    int[] row = new int[10];
    for (int i = 0; i < 10; i++) {
      for (int year = 0; year < n; year++) {
        row[i] += numbers.next() % 10 == 0 ? 1 : 0;
      }
    }
    return row;
  }

  private static void weddings() {
    RopeLedger none = new RopeLedger();
    int[] seeds = {0, 1, 12345, 99999, 65535, 65536, 2147418112, 2147483646, 2147483647};
    for (int seed : seeds) {
      for (int n = 1; n <= 30; n += 29) {
        int[] row = weddings(seed, n);
        for (int more = 0; more <= 6; more++) {
          int reached = 0;
          for (int count : row) {
            reached += count >= more ? 1 : 0;
          }
          KIT.due("seed " + seed + ", " + n + " years, " + more + " weddings", none.chance(seed, n, 5 * more), reached);
        }
      }
    }
    RopeLedger text = KIT.sound("seed 5;");
    for (int seed = 0; seed < 20; seed++) {
      KIT.due("the seed of the text is another one", text.chance(seed, 4, 5), none.chance(seed, 4, 5));
    }
  }

  /** What the bridge bears behind n years in each of ten times: strands of 100 that nothing else frays, all there at first but gone. */
  private static int[] borne(int seed, int n, int[] frayedAtFirst, int gone) {
    Numbers numbers = new Numbers(seed);
    int[] row = new int[10];
    for (int i = 0; i < 10; i++) {
      int[] frayed = frayedAtFirst.clone();
      for (int year = 0; year < n; year++) {
        int number = numbers.next() % 10;
        row[i] += number == 0 ? 5 : 0;
        if (number == 1) {
          frayed[numbers.next() % frayed.length] += 30;
        }
      }
      for (int j = 0; j < frayed.length; j++) {
        row[i] += j == gone ? 0 : Math.max(0, 100 - frayed[j]);
      }
    }
    return row;
  }

  private static RopeLedger strands(int... frayed) {
    StringBuilder text = new StringBuilder(TWO);
    for (int i = 0; i < Math.min(10, frayed.length); i++) {
      text.append("debt a b 100 ").append(frayed[i]).append(" 99;");
    }
    RopeLedger x = KIT.sound(text.append("law fray 0;").toString());
    for (int i = 10; i < frayed.length; i++) {
      x.tie(0, 1, 100, 99);
    }
    return x;
  }

  private static void compare(String why, RopeLedger x, int seed, int n, int[] borne) {
    for (int value : borne) {
      for (int bound = value; bound <= value + 1; bound++) {
        int reached = 0;
        for (int other : borne) {
          reached += other >= bound ? 1 : 0;
        }
        KIT.due(why + ": seed " + seed + ", " + n + " years, bound " + bound, x.chance(seed, n, bound), reached);
      }
    }
  }

  /** "1 a ROT: .. that one is 30 more FRAYED .., if it is there". */
  private static void rots() {
    int[] frayed = {0, 10, 20};
    RopeLedger x = strands(frayed);
    for (int seed = 0; seed < 10; seed++) {
      compare("three strands", x, seed * 7919, 2, borne(seed * 7919, 2, frayed, -1));
    }
    RopeLedger y = strands(frayed);
    y.forgive(1);
    for (int seed = 0; seed < 10; seed++) {
      compare("one is gone, but its number is drawn", y, seed * 7919, 5, borne(seed * 7919, 5, frayed, 1));
    }
    KIT.due("nothing frayed", x.strand(0, 3), 0);
  }

  /** "(at 100 SNAPPED)": of 69 there is 1 left behind a rot, of 70 and 71 nothing; a strand that snapped isn't less than nothing. */
  private static void rotsTo100() {
    int[] at = {69, 70, 71, 99, 40, 39};
    for (int frayed : at) {
      RopeLedger x = strands(frayed);
      for (int seed = 0; seed < 10; seed++) {
        compare("frayed " + frayed, x, seed * 104729, 8, borne(seed * 104729, 8, new int[] {frayed}, -1));
      }
    }
    RopeLedger law = KIT.sound(TWO + "debt a b 1 69 99;debt a b 1 70 99;law fray 0;law bear 1;");
    for (int seed = 0; seed < 100; seed++) {
      Numbers numbers = new Numbers(seed);
      int whole = 0;
      for (int i = 0; i < 10; i++) {
        int number = numbers.next() % 10;
        whole += number == 1 && numbers.next() % 2 == 1 ? 0 : 1;
      }
      KIT.due("at 99 it is there, at 100 it isn't, seed " + seed, law.chance(seed, 1, 2), whole);
    }
  }

  /** "a number modulo how many STRANDS there ever were": ten told and two tied. */
  private static void rotsOfManyStrands() {
    int[] frayed = {1, 3, 5, 7, 9, 11, 13, 15, 17, 19, 0, 0};
    RopeLedger x = strands(frayed);
    for (int seed = 0; seed < 6; seed++) {
      compare("twelve strands", x, seed * 15485863, 9, borne(seed * 15485863, 9, frayed, -1));
    }
    RopeLedger one = strands(50);
    for (int seed = 0; seed < 10; seed++) {
      compare("one strand", one, seed, 3, borne(seed, 3, new int[] {50}, -1));
    }
  }

  /** "ahead of each": what rots to 100 isn't paid in that year, so b has 30 and not 80. */
  private static void rotsAheadOfTheYear() {
    RopeLedger x = KIT.sound(TWO + "debt a b 50 70 0;debt b a 999 0 99;law fray 0;law bear rich * (owed = 999);");
    for (int seed = 0; seed < 150; seed++) {
      Numbers numbers = new Numbers(seed);
      int paid = 0;
      int borne = 0;
      for (int i = 0; i < 10; i++) {
        int number = numbers.next() % 10;
        boolean rotten = number == 1 && numbers.next() % 2 == 0;
        paid += rotten ? 0 : 1;
        borne += number == 0 || !rotten ? 1 : 0;
      }
      KIT.due("seed " + seed, x.chance(seed, 1, 80), paid);
      KIT.due("seed " + seed, x.chance(seed, 1, 36), borne);
      KIT.due("seed " + seed, x.chance(seed, 1, 30), 10);
    }
  }

  /** In how many of ten times one strand, not frayed at first, is there behind n years: it isn't behind four rots. */
  private static int whole(int seed, int n) {
    Numbers numbers = new Numbers(seed);
    int there = 0;
    for (int i = 0; i < 10; i++) {
      int rots = 0;
      for (int year = 0; year < n; year++) {
        if (numbers.next() % 10 == 1) {
          numbers.next();
          rots++;
        }
      }
      there += rots < 4 ? 1 : 0;
    }
    return there;
  }

  /** "n 1 .. 30 YEARS from now": debts that are paid in the 30th year and in the 31st. */
  private static void thirtyYears() {
    RopeLedger x = KIT.sound(TWO + "debt a b 20 0 29;plank 0;law fray 0;law bear 500;law rent 0;");
    RopeLedger y = KIT.sound(TWO + "debt a b 20 0 30;plank 0;law fray 0;law bear 500;law rent 0;");
    RopeLedger later = KIT.sound(TWO + "debt a b 20 0 30;plank 0;law fray 0;law bear 500;law rent 0;");
    later.years(1);
    for (int seed = 0; seed < 30; seed++) {
      KIT.due("29 years, paid in the 30th, seed " + seed, x.chance(seed, 29, 500), whole(seed, 29));
      KIT.due("30 years, paid in the 30th, seed " + seed, x.chance(seed, 30, 500), 0);
      KIT.due("30 years, paid in the 31st, seed " + seed, y.chance(seed, 30, 500), whole(seed, 30));
      KIT.due("30 years from year 1, seed " + seed, later.chance(seed, 30, 500), 0);
    }
    RopeLedger young = KIT.sound(TWO + "debt a b 90 0 99;law fray 4;law bear 500;");
    KIT.due("frayed 4 or 34 behind a year", young.chance(0, 1, 500), 10);
    KIT.due("100 behind 25 years", young.chance(0, 25, 500), 0);
  }

  /** "TRIED (n 0 .. 50); NONE: no such ones (i 0 of all but 2)." */
  private static void triedAsked() {
    RopeLedger x = KIT.sound(TWO + "debt a b 40 0 9;debt b a 20 0 9;cross a 0 0;plank 3;");
    String before = Kit.all(x);
    int[] whats = {-1, 5, 6, Integer.MIN_VALUE, Integer.MAX_VALUE};
    for (int what : whats) {
      KIT.due("tried(" + what + ", 0, 0)", x.tried(what, 0, 0), -1);
      KIT.due("tried(" + what + ", 1, 1)", x.tried(what, 1, 1), -1);
    }
    int[] years = {-1, -2, 51, 52, Integer.MIN_VALUE, Integer.MAX_VALUE};
    int[] others = {-1, 1, 2, Integer.MIN_VALUE, Integer.MAX_VALUE};
    for (int what = 0; what < 5; what++) {
      for (int n : years) {
        KIT.due("tried(" + what + ", 0, " + n + ")", x.tried(what, 0, n), -1);
      }
      for (int i : others) {
        if (what != 2) {
          KIT.due("tried(" + what + ", " + i + ", 0)", x.tried(what, i, 0), -1);
        }
      }
      KIT.due("tried(" + what + ", 0, 0)", x.tried(what, 0, 0), what == 2 ? 23 : 63);
      KIT.due("tried(" + what + ", 0, 50) is one", x.tried(what, 0, 50) >= 0, true);
      KIT.due("of nothing", new RopeLedger().tried(what, 0, 0), what == 2 ? -1 : 0);
      KIT.due("of nothing", new RopeLedger().tried(what, 0, 50), what == 2 ? -1 : 0);
    }
    KIT.stays("tried()", Kit.all(x), before);
  }

  /** "2 STRAND i is gone now". */
  private static void triedStrands() {
    RopeLedger x = KIT.sound(TWO + "debt a b 40 0 0;debt b a 20 0 99;debt a b 50 0 0;twist 0 1;law fray 0;law rent 0;");
    KIT.due("0: the twist is gone, 20 and 50", x.tried(2, 0, 0), 70);
    KIT.due("1: 40 and 50", x.tried(2, 1, 0), 90);
    KIT.due("2: 90", x.tried(2, 2, 0), 90);
    KIT.due("no such strand", x.tried(2, 3, 0), -1);
    KIT.due("no such strand", x.tried(2, -1, 0), -1);
    KIT.due("0 isn't paid, so 50 is", x.tried(2, 0, 1), 20);
    KIT.due("as it goes 40 is paid, 50 not", x.tried(0, 0, 1), 70);
    x.forgive(2);
    KIT.due("one that isn't there is gone already", x.tried(2, 2, 0), 90);
    KIT.due("it is as it was", x.strand(2, 5), 2);
    RopeLedger twelve = KIT.sound(TWO + "debt a b 1 0 99;".repeat(10));
    twelve.tie(0, 1, 5, 99);
    twelve.tie(0, 1, 7, 99);
    KIT.due("the twelfth", twelve.tried(2, 11, 0), 15);
    KIT.due("a thirteenth", twelve.tried(2, 12, 0), -1);
    for (int far : FAR) {
      KIT.due("strand " + far, twelve.tried(2, far, 0), -1);
    }
  }

  /** "0 nothing frays, 1 nobody pays, .. 3 none is painted, 4 no rent": each alone, all else as it goes. */
  private static void triedByKind() {
    String text = TWO + "debt a b 40 10 1;debt b a 200 0 99;debt a b 100 0 99 painted;law fray 10;law rent 5;";
    RopeLedger x = KIT.sound(text);
    // behind 2 years: 0 is paid with 50; 210 less 42; 110 less 22
    KIT.due("nothing frays: 210", x.tried(0, 0, 2), 210);
    KIT.due("nobody pays: 50 less 15, 210 less 42", x.tried(1, 0, 2), 35 + 168);
    KIT.due("none is painted: 168 and 88", x.tried(3, 0, 2), 168 + 88);
    KIT.due("no rent: 200 less 40", x.tried(4, 0, 2), 160);
    KIT.due("0 is gone", x.tried(2, 0, 2), 168);
    KIT.due("nothing frays, behind 1 year: 45 less 4, 205", x.tried(0, 0, 1), 41 + 205);
    KIT.due("nobody pays, behind 0 years", x.tried(1, 0, 0), 36 + 200);
    x.years(2);
    KIT.due("as it goes", x.bears(), 168);
    RopeLedger snaps = KIT.sound(TWO + "debt a b 60 90 99;");
    KIT.due("what doesn't fray doesn't snap", snaps.tried(0, 0, 50), 6);
    KIT.due("else it does", snaps.tried(4, 0, 5), 0);
  }

  /** The 50th year counts: a debt of year 49 is paid in it. */
  private static void triedFifty() {
    RopeLedger x = KIT.sound(TWO + "debt a b 10 0 49;debt a b 20 0 50;law fray 0;");
    KIT.due("49 years", x.tried(4, 0, 49), 30);
    KIT.due("50 years", x.tried(4, 0, 50), 20);
    KIT.due("51 years", x.tried(4, 0, 51), -1);
    x.years(1);
    KIT.due("50 years from year 1", x.tried(4, 0, 50), 0);
    KIT.due("49 years from year 1", x.tried(4, 0, 49), 20);
  }
}
