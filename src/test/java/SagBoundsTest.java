/** Bounds of sags, strikings, what is known, painted and tells (part 3), promises 26 to 30. */
public final class SagBoundsTest {
  private static final Kit KIT = new Kit("SagBoundsTest");
  private static final String TWO = "person a east 50 10;person b west 30 20;";
  /** With 0, 1, 2 or none painted it bears 50, 40, 30 or 60: a load of 120 sags 240, 300, 400 or 200. */
  private static final String THREE = TWO + "debt a b 10 0 99;debt a b 20 0 99;debt b a 30 0 99 painted;law fray 0;law bear owed;law rent 0;";
  private static final int[] FAR = {Integer.MIN_VALUE, -1000, 1 << 20, Integer.MAX_VALUE};

  public static void main(String[] args) {
    seeingAsked();
    seeingAtBounds();
    atLeastOrLess();
    sagsOfNothing();
    seenByYears();
    seenFromTheTextOn();
    strikingAsked();
    twentyFour();
    knownAsked();
    knownByN();
    struckByOneOfThese();
    paintedOfNoneAndTen();
    paintedAlone();
    tellsAsked();
    tellsFirst();
    tellsTo200();
    tellsOfEleven();
    tellsAsItStandsNow();
    KIT.end();
  }

  private static RopeLedger three() {
    return KIT.sound(THREE);
  }

  /** "NONE: no such ones": years 0 .. 50, a load 1 .. 999, a sag 0 .. 9999. */
  private static void seeingAsked() {
    RopeLedger x = three();
    x.see(0, 1, 1, true);
    x.forgive(0);
    String before = Kit.all(x);
    int[][] rows = {{-1, 1, 0}, {-2, 1, 0}, {51, 1, 0}, {52, 1, 0}, {0, 0, 0}, {0, -1, 0}, {0, 1000, 0}, {0, 1001, 0}, {0, 1, -1}, {0, 1, -2},
        {0, 1, 10000}, {0, 1, 10001}, {51, 1000, 10000}, {-1, 0, -1}};
    for (int[] row : rows) {
      KIT.due("see" + java.util.Arrays.toString(row), x.see(row[0], row[1], row[2], true), -1);
      KIT.due("see" + java.util.Arrays.toString(row), x.see(row[0], row[1], row[2], false), -1);
    }
    for (int far : FAR) {
      KIT.due("years " + far, x.see(far, 1, 1, true), -1);
      KIT.due("load " + far, x.see(0, far, 1, true), -1);
      KIT.due("sag " + far, x.see(0, 1, far, true), -1);
    }
    KIT.stays("see() that is refused", Kit.all(x), before);
  }

  private static void seeingAtBounds() {
    RopeLedger x = three();
    int[][] rows = {{0, 1, 0}, {1, 2, 1}, {49, 998, 9998}, {50, 999, 9999}, {0, 999, 0}, {50, 1, 9999}};
    for (int i = 0; i < rows.length; i++) {
      KIT.due("see" + java.util.Arrays.toString(rows[i]), x.see(rows[i][0], rows[i][1], rows[i][2], i % 2 == 0), i);
      KIT.due("sags", x.count(13), i + 1);
    }
    KIT.due("nothing to undo", x.count(15), 0);
    KIT.due("no undo takes it back", x.undo(), -1);
    KIT.due("sags", x.count(13), 6);
  }

  private static int paintedBy(int years, int load, int sag, boolean atLeast) {
    RopeLedger x = three();
    KIT.due("see", x.see(years, load, sag, atLeast), 0);
    return x.painted();
  }

  /** "SAG of a load was at least so much, or less": at, just below and just above what it is. */
  private static void atLeastOrLess() {
    int[] sags = {240, 300, 400, 200};
    for (int i = 0; i < sags.length; i++) {
      for (int sag = sags[i] - 1; sag <= sags[i] + 1; sag++) {
        int bits = 0;
        for (int candidate = 0; candidate < sags.length; candidate++) {
          bits |= sags[candidate] >= sag ? 1 << candidate : 0;
        }
        KIT.due("120 sags at least " + sag, paintedBy(0, 120, sag, true), bits);
        KIT.due("120 sags less than " + sag, paintedBy(0, 120, sag, false), 15 - bits);
      }
    }
    KIT.due("at least 0", paintedBy(0, 1, 0, true), 15);
    KIT.due("less than 0", paintedBy(0, 1, 0, false), 0);
    KIT.due("at least 9999", paintedBy(0, 999, 9999, true), 0);
    KIT.due("less than 9999", paintedBy(0, 999, 9999, false), 15);
  }

  /** A bridge that bears nothing sags 9999. */
  private static void sagsOfNothing() {
    RopeLedger x = KIT.sound(TWO + "debt a b 10 0 99;");
    x.see(0, 1, 9999, true);
    KIT.due("0 painted: it bears nothing", x.painted(), 1);
    RopeLedger y = KIT.sound(TWO + "debt a b 10 0 99;");
    y.see(0, 1, 9999, false);
    KIT.due("none painted", y.painted(), 2);
    RopeLedger z = KIT.sound(TWO + "debt a b 1 0 99;debt a b 1 0 99;law fray 0;");
    z.see(0, 99, 9900, true);
    KIT.due("9900 by 1", z.painted(), 3);
    z.see(0, 100, 9999, true);
    KIT.due("10000 by 1 is 9999", z.painted(), 3);
    z.see(0, 99, 9901, true);
    KIT.due("not 9901", z.painted(), 0);
  }

  /** "behind so many YEARS 0 .. 50": strand 0 is paid in year 49, strand 1 in year 0. */
  private static void seenByYears() {
    String text = TWO + "debt a b 10 0 49;debt a b 20 0 0;debt b a 40 0 99;law fray 0;law rent 0;";
    int[][] borne = {{60, 50, 30, 70}, {40, 50, 10, 50}, {40, 50, 10, 50}, {40, 40, 0, 40}};
    int[] years = {0, 1, 49, 50};
    for (int i = 0; i < years.length; i++) {
      for (int bound = 0; bound <= 80; bound += 10) {
        RopeLedger x = KIT.sound(text);
        int sag = bound == 0 ? 9999 : 999 * 100 / bound;
        x.see(years[i], 999, Math.min(9999, sag), true);
        int bits = 0;
        for (int candidate = 0; candidate < 4; candidate++) {
          bits |= borne[i][candidate] <= bound || bound == 0 && borne[i][candidate] <= 9 ? 1 << candidate : 0;
        }
        KIT.due("behind " + years[i] + " years at most " + bound, x.painted(), bits);
      }
    }
  }

  /** "as it goes from the TEXT on": whatever was done, went by or came back since. */
  private static void seenFromTheTextOn() {
    RopeLedger x = three();
    x.see(0, 120, 300, true);
    x.see(3, 120, 399, true);
    KIT.due("2", x.painted(), 4);
    x.forgive(0);
    x.twist(1, 2);
    x.tie(0, 1, 500, 0);
    x.keep();
    KIT.due("2", x.painted(), 4);
    x.years(40);
    KIT.due("2", x.painted(), 4);
    x.back();
    x.pay(1);
    KIT.due("2", x.painted(), 4);
    KIT.due("the year it is", x.count(10), 0);
    KIT.due("what was paid is", x.strand(1, 5), 1);
  }

  /** "its number; NONE: no such SAG, or there are 24." */
  private static void strikingAsked() {
    RopeLedger none = new RopeLedger();
    KIT.due("of none", none.strikes(0), -1);
    KIT.due("of none", none.strikes(-1), -1);
    RopeLedger x = three();
    x.see(0, 120, 300, true);
    x.see(0, 120, 301, true);
    String before = Kit.all(x);
    int[] wrong = {-1, -2, 2, 3, 23, 24, Integer.MIN_VALUE, Integer.MAX_VALUE};
    for (int seen : wrong) {
      KIT.due("strikes(" + seen + ")", x.strikes(seen), -1);
    }
    KIT.stays("strikes() that is refused", Kit.all(x), before);
    KIT.due("only 2", x.painted(), 4);
    KIT.due("the last one", x.strikes(1), 2);
    KIT.due("1 and 2", x.painted(), 6);
    KIT.due("the first one", x.strikes(0), 3);
    KIT.due("all", x.painted(), 15);
    KIT.due("a striking", x.strikes(3), 4);
    KIT.due("1 and 2", x.painted(), 6);
    KIT.due("not itself", x.strikes(5), -1);
  }

  /** "SAGS, at most 24, numbered from 0 on", strikings among them. */
  private static void twentyFour() {
    RopeLedger x = three();
    for (int i = 0; i < 23; i++) {
      KIT.due("see", x.see(0, 120, 300, true), i);
    }
    KIT.due("the 24th", x.see(50, 120, 400, true), 23);
    KIT.due("the 25th", x.see(0, 120, 300, true), -1);
    KIT.due("a striking", x.strikes(23), -1);
    KIT.due("24", x.count(13), 24);
    KIT.due("the 24th counts", x.painted(), 4);
    KIT.due("known by 23", x.known(23), true);
    KIT.due("without the 24th", x.painted(), 6);
    KIT.due("known by 24", x.known(24), true);
    KIT.due("with the 24th", x.painted(), 4);
    KIT.due("known by 25", x.known(25), false);
    RopeLedger y = three();
    for (int i = 0; i < 22; i++) {
      y.see(0, 120, 400, true);
    }
    KIT.due("the 23rd", y.see(0, 120, 201, false), 22);
    KIT.due("nothing is so", y.painted(), 0);
    KIT.due("the 24th is a striking", y.strikes(22), 23);
    KIT.due("it counts", y.painted(), 4);
    KIT.due("the 25th", y.strikes(23), -1);
    KIT.due("the 25th", y.see(0, 1, 1, true), -1);
    KIT.due("24", y.count(13), 24);
    KIT.due("a new text", Kit.tell(y, THREE), 8);
    KIT.due("from 0 on", y.see(0, 1, 1, true), 0);
  }

  /** "KNOWN by n from now on (-1: by all, also those to come): true; false: no such n." */
  private static void knownAsked() {
    RopeLedger none = new RopeLedger();
    KIT.due("known(0)", none.known(0), true);
    KIT.due("known(-1)", none.known(-1), true);
    KIT.due("known(1)", none.known(1), false);
    KIT.due("known(-2)", none.known(-2), false);
    RopeLedger x = three();
    x.see(0, 120, 300, true);
    x.see(0, 120, 400, true);
    x.known(1);
    String before = Kit.all(x);
    int[] wrong = {-2, -3, 3, 4, 24, 25, Integer.MIN_VALUE, Integer.MAX_VALUE};
    for (int n : wrong) {
      KIT.due("known(" + n + ")", x.known(n), false);
    }
    KIT.stays("known() that is refused", Kit.all(x), before);
    KIT.due("by one still", x.painted(), 6);
    KIT.due("known(2)", x.known(2), true);
    KIT.due("by two", x.painted(), 4);
    KIT.due("by two", x.count(14), 2);
    KIT.due("known(0)", x.known(0), true);
    KIT.due("by none", x.painted(), 15);
    KIT.due("by none", x.count(14), 0);
    KIT.due("known(-1)", x.known(-1), true);
    KIT.due("by all", x.painted(), 4);
    KIT.due("by all", x.count(14), 2);
  }

  private static void knownByN() {
    RopeLedger x = three();
    KIT.due("all at first", x.count(14), 0);
    x.see(0, 120, 300, true);
    KIT.due("all at first, also those to come", x.count(14), 1);
    x.known(1);
    x.see(0, 120, 400, true);
    KIT.due("those to come aren't", x.count(14), 1);
    KIT.due("those to come aren't", x.painted(), 6);
    x.known(-1);
    x.see(0, 120, 401, true);
    KIT.due("those to come are", x.count(14), 3);
    KIT.due("those to come are", x.painted(), 0);
    x.known(3);
    x.strikes(2);
    KIT.due("a striking to come isn't", x.painted(), 0);
    x.known(4);
    KIT.due("the striking is", x.painted(), 4);
    x.keep();
    x.known(0);
    x.back();
    KIT.due("an image keeps no sags", x.count(13), 4);
    KIT.due("nor what is known of them", x.count(14), 0);
  }

  /** "the first n that aren't STRUCK by one of these (one may be STRUCK: then it doesn't count; asked from the last one on)". */
  private static void struckByOneOfThese() {
    RopeLedger x = three();
    x.see(0, 120, 300, true);
    x.strikes(0);
    x.strikes(1);
    x.strikes(2);
    x.strikes(1);
    x.strikes(4);
    x.strikes(3);
    int[] want = {15, 6, 15, 6, 15, 6, 15, 6};
    // 0 counts, if the striking 1 is struck: by 2, unless 3 strikes it; by 4, unless 5 strikes that; 6 strikes 3
    for (int n = 0; n <= 7; n++) {
      KIT.due("known(" + n + ")", x.known(n), true);
      KIT.due("painted by " + n, x.painted(), want[n]);
    }
    RopeLedger y = three();
    y.see(0, 120, 300, true);
    y.see(0, 120, 400, true);
    y.strikes(1);
    y.strikes(1);
    KIT.due("struck twice", y.painted(), 6);
    y.strikes(2);
    KIT.due("one of two strikings is struck", y.painted(), 6);
    y.strikes(3);
    KIT.due("both are struck", y.painted(), 4);
  }

  /** "STRANDS told (bits; the bit behind all: none)". */
  private static void paintedOfNoneAndTen() {
    KIT.due("of nothing", new RopeLedger().painted(), 1);
    KIT.due("of one", KIT.sound(TWO + "debt a b 1 0 9;").painted(), 3);
    RopeLedger nine = KIT.sound(TWO + "debt a b 1 0 99;".repeat(9));
    KIT.due("of nine", nine.painted(), 1023);
    RopeLedger ten = KIT.sound(TWO + "debt a b 1 0 99;".repeat(9) + "debt a b 5 0 99;");
    KIT.due("of ten", ten.painted(), 2047);
    ten.tie(0, 1, 9, 9);
    ten.tie(0, 1, 9, 9);
    KIT.due("those tied aren't told", ten.painted(), 2047);
    ten.see(0, 9, 100, true);
    KIT.due("the last of ten", ten.painted(), 512);
    ten.strikes(0);
    ten.see(0, 14, 101, false);
    KIT.due("none", ten.painted(), 1024);
    RopeLedger empty = new RopeLedger();
    empty.see(0, 1, 9999, false);
    KIT.due("nothing bears nothing", empty.painted(), 0);
  }

  /** "as the one painted alone": what the text told painted counts as any other. */
  private static void paintedAlone() {
    RopeLedger x = KIT.sound(TWO + "debt a b 10 0 99 painted;debt a b 20 0 99 painted;debt a b 30 0 99;debt b a 5 0 99;twist 2 3;");
    // 0: 20 and 52, 1: 10 and 52, 2: 30 and 7, 3: 30 and 45, none: 30 and 52
    int[] borne = {72, 62, 37, 75, 82};
    for (int i = 0; i < borne.length; i++) {
      RopeLedger y = KIT.sound(TWO + "debt a b 10 0 99 painted;debt a b 20 0 99 painted;debt a b 30 0 99;debt b a 5 0 99;twist 2 3;");
      int sag = 99900 / borne[i];
      y.see(0, 999, sag, true);
      y.see(0, 999, sag + 1, false);
      KIT.due("it bore " + borne[i], y.painted(), 1 << i);
    }
    KIT.due("all", x.painted(), 31);
    KIT.due("it bears as told", x.bears(), 52);
  }

  /** "what 0: the load, 1: how many ways. -2: nothing is PAINTED by all KNOWN ones; NONE for another what." */
  private static void tellsAsked() {
    RopeLedger x = three();
    int[] wrong = {-1, 2, 3, Integer.MIN_VALUE, Integer.MAX_VALUE};
    String before = Kit.all(x);
    for (int what : wrong) {
      KIT.due("tells(" + what + ")", x.tells(what), -1);
    }
    KIT.due("the load", x.tells(0), 2);
    KIT.due("the ways", x.tells(1), 4);
    KIT.stays("tells()", Kit.all(x), before);
    x.see(0, 1, 0, false);
    KIT.due("nothing is painted", x.tells(0), -2);
    KIT.due("nothing is painted", x.tells(1), -2);
    for (int what : wrong) {
      KIT.due("tells(" + what + ")", x.tells(what), -1);
    }
    x.known(0);
    KIT.due("by those that are known", x.tells(1), 4);
    x.known(-1);
    x.strikes(0);
    KIT.due("struck", x.tells(1), 4);
    x.see(0, 120, 300, false);
    KIT.due("0 and none", x.tells(1), 2);
    x.see(0, 120, 201, true);
    KIT.due("0 alone", x.tells(1), 1);
    KIT.due("0 alone: the first load", x.tells(0), 1);
    KIT.due("of nothing", new RopeLedger().tells(0), 1);
    KIT.due("of nothing", new RopeLedger().tells(1), 1);
  }

  /** "the first of several". */
  private static void tellsFirst() {
    RopeLedger two = KIT.sound(TWO + "debt a b 1 0 99;plank 99;");
    KIT.due("99 or 100: 1 by each is 1", two.tells(1), 2);
    KIT.due("98 by 99 is 98, by 100 98; 99 is 100 or 99", two.tells(0), 99);
    RopeLedger alike = KIT.sound(TWO + "debt a b 5 0 99;debt a b 5 0 99;plank 5;");
    KIT.due("10, 10 or 15", alike.tells(1), 2);
    KIT.due("10 or 6 of 1", alike.tells(0), 1);
    RopeLedger nothing = KIT.sound(TWO + "debt a b 5 0 99;");
    KIT.due("0 or 5: 9999 or 20", nothing.tells(1), 2);
    KIT.due("the first", nothing.tells(0), 1);
    RopeLedger below = KIT.sound(TWO + "debt a b 1 0 99;debt a b 1 0 99;");
    KIT.due("1, 1 or 2", below.tells(1), 2);
  }

  private static String almost(int plank) {
    return TWO + "debt a b 1 0 99;debt a b 999 0 99;debt a b 999 0 99;plank " + plank + ";law bear owed * 10;law fray 0;";
  }

  /** "the load 1 .. 200": with 0 painted it bears 19980 and the plank, without 10 more; 100 times a load between them tells. */
  private static void tellsTo200() {
    int[][] rows = {{10, 1, 1}, {11, 200, 2}, {15, 200, 2}, {20, 200, 2}, {21, 1, 1}, {120, 1, 1}};
    for (int[] row : rows) {
      RopeLedger x = KIT.sound(almost(row[0]));
      x.see(0, 999, 5, false);
      KIT.due("0 and none", x.painted(), 9);
      KIT.due("plank " + row[0], x.tells(0), row[1]);
      KIT.due("ways", x.tells(1), row[2]);
    }
    RopeLedger y = KIT.sound(TWO + "debt a b 1 0 99;debt a b 999 0 99;debt a b 999 0 99;law bear owed * 10 - 40 * (owed > 1);law fray 0;");
    y.see(0, 900, 5, false);
    KIT.due("0 and none: 19900 and 19910", y.painted(), 9);
    KIT.due("199 tells", y.tells(0), 199);
    KIT.due("ways", y.tells(1), 2);
  }

  /** Ten strands and none: eleven ways at most. */
  private static void tellsOfEleven() {
    StringBuilder text = new StringBuilder(TWO);
    for (int i = 1; i <= 10; i++) {
      text.append("debt a b ").append(i).append(" 0 99;");
    }
    RopeLedger x = KIT.sound(text.toString());
    KIT.due("all", x.painted(), 2047);
    KIT.due("45 to 55", x.tells(1), 11);
    int first = 0;
    for (int load = 200; load >= 1; load--) {
      java.util.Set<Integer> ways = new java.util.HashSet<>();
      for (int borne = 45; borne <= 55; borne++) {
        ways.add(load * 100 / borne);
      }
      first = ways.size() == 11 ? load : first;
    }
    KIT.due("the first that tells all", x.tells(0), first);
    RopeLedger alike = KIT.sound(TWO + "debt a b 5 0 99;".repeat(10));
    KIT.due("45 or 50", alike.tells(1), 2);
  }

  /** "as it stands now, each painted alone; none, too": strands tied since are there, those that are gone tell nothing. */
  private static void tellsAsItStandsNow() {
    RopeLedger x = three();
    x.forgive(0);
    x.forgive(1);
    x.forgive(2);
    KIT.due("nothing is there", x.tells(1), 1);
    KIT.due("nothing is there", x.tells(0), 1);
    x.tie(0, 1, 7, 99);
    KIT.due("7, whatever is painted", x.tells(1), 1);
    x.undo();
    x.undo();
    KIT.due("2 is there: 0 or 30", x.tells(1), 2);
    x.undo();
    KIT.due("1 and 2 are there: 50, 30, 20, 50", x.tells(1), 3);
    x.see(0, 120, 300, false);
    KIT.due("0 and none, both 50 now", x.painted(), 9);
    KIT.due("one way", x.tells(1), 1);
    x.undo();
    KIT.due("50 and 60 again", x.tells(1), 2);
    x.years(50);
    KIT.due("as it stands now", x.tells(1), 2);
  }
}
