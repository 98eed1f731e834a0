/** Promises 35 to 38: undo, keep, back, count. */
public final class UndoTest {
  private static final Kit KIT = new Kit("UndoTest");
  private static final String TWO = "person a east 50 10;person b west 30 20;";
  private static final String SOME = TWO + "debt a b 10 0 9;debt a b 20 0 9;debt b a 30 0 9;twist 0 1;cross a 1 0;cross a 99 1;";

  public static void main(String[] args) {
    eachKind();
    twentyAtMost();
    noYearSince();
    images();
    sagsStay();
    counts();
    KIT.end();
  }

  private static void eachKind() {
    RopeLedger x = KIT.told(SOME, 8);
    KIT.due("none", x.undo(), -1);
    x.tie(0, 1, 5, 5);
    x.forgive(1);
    x.pay(2);
    x.twist(0, 3);
    x.cross(0, 5);
    KIT.due("five", x.count(15), 5);
    KIT.due("crossing", x.undo(), 4);
    KIT.due("stands", Kit.person(x, 0, 3), 0);
    KIT.due("twisting", x.undo(), 3);
    KIT.due("as it was", x.strand(0, 7), 1);
    KIT.due("as it was", x.strand(1, 7), 0);
    KIT.due("as it was", x.strand(3, 7), -1);
    KIT.due("paying", x.undo(), 2);
    KIT.due("there", x.strand(2, 5), 0);
    KIT.due("purse", Kit.person(x, 0, 0), 50);
    KIT.due("purse", Kit.person(x, 1, 0), 30);
    KIT.due("forgiving", x.undo(), 1);
    KIT.due("there", x.strand(1, 5), 0);
    KIT.due("tying", x.undo(), 0);
    KIT.due("gone", x.strand(3, 0), -1);
    KIT.due("ever", x.count(1), 3);
    KIT.due("none", x.undo(), -1);
    KIT.due("the number is free again", x.tie(1, 0, 6, 6), 3);
    KIT.due("owed", x.strand(3, 2), 6);
  }

  private static void twentyAtMost() {
    RopeLedger x = KIT.told(SOME, 8);
    x.forgive(2);
    for (int i = 0; i < 20; i++) {
      x.cross(0, i % 5);
      KIT.due("to undo", x.count(15), Math.min(20, i + 2));
    }
    x.cross(0, 99);
    x.tie(0, 0, 1, 1);
    for (int i = 19; i >= 0; i--) {
      KIT.due("undo", x.undo(), i);
      KIT.due("stands", Kit.person(x, 0, 3), i % 2);
    }
    KIT.due("no more", x.undo(), -1);
    KIT.due("forgiven stays", x.strand(2, 5), 2);
  }

  private static void noYearSince() {
    RopeLedger x = KIT.told(SOME, 8);
    x.forgive(2);
    KIT.due("no year", x.years(0), 0);
    KIT.due("wrong", x.years(100), -1);
    KIT.due("still", x.count(15), 1);
    x.years(1);
    KIT.due("none", x.count(15), 0);
    KIT.due("none", x.undo(), -1);
    x.forgive(1);
    KIT.due("one", x.undo(), 0);
    KIT.due("year", x.count(10), 1);
    KIT.due("forgiven stays", x.strand(2, 5), 2);
  }

  private static void images() {
    RopeLedger x = KIT.told(SOME, 8);
    KIT.due("none", x.back(), -1);
    x.years(1);
    x.tie(0, 1, 5, 5);
    KIT.due("keep", x.keep(), 1);
    KIT.due("can still be undone", x.count(15), 1);
    x.pay(1);
    x.twist(2, 2);
    x.forgive(3);
    x.cross(1, 1);
    x.tie(0, 1, 7, 7);
    x.years(9);
    KIT.due("back", x.back(), 1);
    KIT.due("year", x.count(10), 1);
    KIT.due("ever", x.count(1), 4);
    KIT.due("there", x.count(2), 4);
    KIT.due("stands", Kit.person(x, 0, 3), 1);
    KIT.due("stands", Kit.person(x, 1, 3), 1);
    KIT.due("purse", Kit.person(x, 0, 0), 50);
    KIT.due("made", x.count(7), 1);
    KIT.due("refused", x.count(8), 0);
    KIT.due("nothing to undo", x.undo(), -1);
    KIT.due("frayed", x.strand(0, 3), 2);
    x.forgive(0);
    KIT.due("back again", x.back(), 1);
    KIT.due("there", x.strand(0, 5), 0);
    KIT.due("nothing to undo", x.count(15), 0);
    x.years(2);
    KIT.due("another in its place", x.keep(), 3);
    x.years(2);
    KIT.due("back", x.back(), 3);
  }

  private static void sagsStay() {
    RopeLedger x = KIT.told(SOME, 8);
    x.see(0, 10, 13, true);
    x.keep();
    x.see(0, 10, 14, true);
    x.strikes(0);
    KIT.due("back", x.back(), 0);
    KIT.due("sags", x.count(13), 3);
    x.tie(0, 1, 1, 1);
    x.undo();
    KIT.due("sags", x.count(13), 3);
  }

  private static void counts() {
    RopeLedger x = KIT.told(SOME + "debt a b 5 98 99;plank 4;law bear owed + 1;law fray 2;seed 5;", 13);
    x.see(1, 1, 1, false);
    x.see(1, 1, 1, false);
    x.strikes(1);
    x.known(2);
    x.years(2);
    x.tie(1, 0, 7, 50);
    x.pay(0);
    x.forgive(1);
    int[] want = {2, 5, 2, 1, 1, 1, 2, 1, 1, 4, 2, 37, 4, 3, 2, 3};
    for (int what = 0; what < want.length; what++) {
      KIT.due("count(" + what + ")", x.count(what), want[what]);
    }
    KIT.due("count(16)", x.count(16), -1);
    KIT.due("count(-1)", x.count(-1), -1);
  }
}
