/** Promises 26 to 30: see, strikes, known, painted, tells. */
public final class SagTest {
  private static final Kit KIT = new Kit("SagTest");
  private static final String TWO = "person a east 50 10;person b west 30 20;";
  /** With 0, 1, 2 or none painted it bears 50, 40, 30 or 60. */
  private static final String THREE = TWO + "debt a b 10 0 3;debt a b 20 0 99;debt b a 30 0 99 painted;law fray 0;";

  public static void main(String[] args) {
    seeing();
    striking();
    knowing();
    overYears();
    telling();
    tellingNow();
    theLastLoad();
    KIT.end();
  }

  private static void seeing() {
    RopeLedger x = KIT.told(THREE, 6);
    KIT.due("all", x.painted(), 15);
    KIT.due("years", x.see(-1, 1, 0, true), -1);
    KIT.due("years", x.see(51, 1, 0, true), -1);
    KIT.due("load", x.see(0, 0, 0, true), -1);
    KIT.due("load", x.see(0, 1000, 0, true), -1);
    KIT.due("sag", x.see(0, 1, -1, true), -1);
    KIT.due("sag", x.see(0, 1, 10000, true), -1);
    KIT.due("none was seen", x.count(13), 0);
    KIT.due("240 by 50, 300 by 40, 400 by 30, 200 by 60", x.see(0, 120, 300, true), 0);
    KIT.due("40 and 30", x.painted(), 6);
    KIT.due("less", x.see(0, 120, 400, false), 1);
    KIT.due("40", x.painted(), 2);
    KIT.due("less", x.see(50, 999, 0, false), 2);
    KIT.due("nothing sags less than 0", x.painted(), 0);
    for (int i = 3; i < 24; i++) {
      KIT.due("see", x.see(50, 1, 9999, true), i);
    }
    KIT.due("there are 24", x.see(0, 1, 1, true), -1);
    KIT.due("there are 24", x.strikes(0), -1);
    KIT.due("sags", x.count(13), 24);
  }

  private static void striking() {
    RopeLedger x = KIT.told(THREE, 6);
    KIT.due("no such one", x.strikes(0), -1);
    x.see(0, 120, 300, true);
    KIT.due("no such one", x.strikes(1), -1);
    KIT.due("no such one", x.strikes(-1), -1);
    KIT.due("struck", x.strikes(0), 1);
    KIT.due("all", x.painted(), 15);
    KIT.due("the striking is struck", x.strikes(1), 2);
    KIT.due("so it doesn't count", x.painted(), 6);
    KIT.due("and that one", x.strikes(2), 3);
    KIT.due("all", x.painted(), 15);
    KIT.due("struck twice", x.strikes(0), 4);
    KIT.due("all", x.painted(), 15);
    KIT.due("sags", x.count(13), 5);
  }

  private static void knowing() {
    RopeLedger x = KIT.told(THREE, 6);
    x.see(0, 120, 300, true);
    x.see(0, 120, 400, false);
    x.strikes(0);
    x.strikes(2);
    KIT.due("known by all", x.count(14), 4);
    KIT.due("known(5)", x.known(5), false);
    KIT.due("known(-2)", x.known(-2), false);
    KIT.due("known(4)", x.known(4), true);
    KIT.due("40", x.painted(), 2);
    KIT.due("known(3)", x.known(3), true);
    KIT.due("all but 30", x.painted(), 11);
    KIT.due("known(2)", x.known(2), true);
    KIT.due("40", x.painted(), 2);
    KIT.due("known(1)", x.known(1), true);
    KIT.due("40 and 30", x.painted(), 6);
    KIT.due("known(0)", x.known(0), true);
    KIT.due("all", x.painted(), 15);
    KIT.due("known by none", x.count(14), 0);
    x.known(4);
    x.see(0, 1, 0, false);
    KIT.due("those to come aren't known", x.painted(), 2);
    KIT.due("known by 4", x.count(14), 4);
    KIT.due("known(-1)", x.known(-1), true);
    KIT.due("now they are", x.painted(), 0);
    KIT.due("known by 5", x.count(14), 5);
    x.strikes(4);
    KIT.due("and those to come", x.painted(), 2);
  }

  /** Behind 4 years strand 0 is paid, from the text on, whatever was done since. */
  private static void overYears() {
    RopeLedger x = KIT.told(THREE, 6);
    x.forgive(1);
    x.tie(0, 1, 99, 99);
    x.years(7);
    KIT.due("50, 30, 20 or 50", x.see(4, 10, 20, true), 0);
    KIT.due("all", x.painted(), 15);
    x.see(4, 10, 33, true);
    KIT.due("30 and 20", x.painted(), 6);
    x.see(3, 10, 26, true);
    KIT.due("a year less: 33 by 30", x.painted(), 4);
    KIT.due("nothing went by", x.count(10), 7);
  }

  private static void telling() {
    RopeLedger x = KIT.told(THREE, 6);
    KIT.due("no such what", x.tells(2), -1);
    KIT.due("no such what", x.tells(-1), -1);
    KIT.due("2 by 50, 40, 30, 60: 4, 5, 6, 3", x.tells(0), 2);
    KIT.due("ways", x.tells(1), 4);
    x.see(0, 120, 240, false);
    KIT.due("60", x.painted(), 8);
    KIT.due("one way: the first", x.tells(0), 1);
    KIT.due("one way", x.tells(1), 1);
    x.see(0, 120, 400, true);
    KIT.due("nothing", x.tells(0), -2);
    KIT.due("nothing", x.tells(1), -2);
    KIT.due("no such what", x.tells(2), -1);
    x.strikes(0);
    x.strikes(1);
    x.see(0, 120, 300, false);
    KIT.due("50 and 60", x.painted(), 9);
    KIT.due("1 by 50 and 60: 2 and 1", x.tells(0), 1);
    KIT.due("ways", x.tells(1), 2);
  }

  /** The bridge as it stands now is asked, with other strands than the text told. */
  private static void tellingNow() {
    RopeLedger x = KIT.told(THREE, 6);
    x.tie(0, 1, 40, 99);
    KIT.due("90, 80, 70 or 100", x.tells(1), 4);
    KIT.due("the first load that tells four", x.tells(0), firstApart(new int[] {90, 80, 70, 100}));
    x.undo();
    KIT.due("50, 40, 30 or 60", x.tells(0), 2);
    x.forgive(1);
    KIT.due("1 and none are alike now: 30, 40, 10, 40", x.tells(1), 3);
    KIT.due("1 by 30, 40, 10: 3, 2, 10", x.tells(0), 1);
  }

  /** Without 0 it bears 20000, with all 20010, so no load below 200 tells them apart. */
  private static void theLastLoad() {
    RopeLedger x = KIT.told(TWO + "debt a b 1 0 99;debt a b 999 0 99;debt a b 999 0 99;plank 20;law bear owed * 10;", 7);
    x.see(0, 999, 5, false);
    KIT.due("0 and none", x.painted(), 9);
    KIT.due("200", x.tells(0), 200);
    KIT.due("two ways", x.tells(1), 2);
    x = KIT.told(TWO + "debt a b 1 0 99;debt a b 999 0 99;debt a b 999 0 99;plank 120;law bear owed * 10;", 7);
    x.see(0, 999, 5, false);
    KIT.due("201 isn't asked", x.tells(0), 1);
    KIT.due("one way", x.tells(1), 1);
  }

  private static int firstApart(int[] borne) {
    for (int load = 1; load <= 200; load++) {
      java.util.Set<Integer> ways = new java.util.HashSet<>();
      for (int b : borne) {
        ways.add(load * 100 / b);
      }
      if (ways.size() == borne.length) {
        return load;
      }
    }
    return -1;
  }
}
