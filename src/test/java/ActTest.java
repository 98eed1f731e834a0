/** Promises 12 to 17: tie, forgive, pay, twist, cross, years. */
public final class ActTest {
  private static final Kit KIT = new Kit("ActTest");
  private static final String TWO = "person a east 50 10;person b west 30 20;";

  public static void main(String[] args) {
    tying();
    forgiving();
    paying();
    twisting();
    crossing();
    yearsGoBy();
    fraying();
    growing();
    dueDebts();
    lawsWithinAYear();
    KIT.end();
  }

  private static void tying() {
    RopeLedger x = KIT.told(TWO + "person c east 1 1;" + "debt a b 1 0 0;".repeat(10), 13);
    KIT.due("no such from", x.tie(3, 1, 5, 5), -1);
    KIT.due("no such from", x.tie(-1, 1, 5, 5), -1);
    KIT.due("no such to", x.tie(0, 3, 5, 5), -1);
    KIT.due("no such to", x.tie(0, -1, 5, 5), -1);
    KIT.due("of one side", x.tie(0, 2, 5, 5), -1);
    KIT.due("with itself", x.tie(0, 0, 5, 5), -1);
    KIT.due("owed", x.tie(0, 1, 0, 5), -1);
    KIT.due("owed", x.tie(0, 1, 1000, 5), -1);
    KIT.due("due", x.tie(0, 1, 5, -1), -1);
    KIT.due("due", x.tie(0, 1, 5, 100), -1);
    KIT.due("nothing to undo", x.count(15), 0);
    KIT.due("tie", x.tie(1, 2, 999, 99), 10);
    KIT.due("tie", x.tie(0, 1, 1, 0), 11);
    KIT.due("there are 12", x.tie(0, 1, 1, 0), -1);
    KIT.due("who", x.strand(10, 0), 1);
    KIT.due("to whom", x.strand(10, 1), 2);
    KIT.due("owed", x.strand(10, 2), 999);
    KIT.due("due", x.strand(10, 4), 99);
    KIT.due("no twist", x.strand(10, 7), -1);
    x.forgive(0);
    KIT.due("there were 12", x.tie(0, 1, 1, 0), -1);
    KIT.due("bears", x.bears(), 9 + 999 + 1);
    RopeLedger y = KIT.told(TWO + "debt a b 1 0 0;debt a b 1 0 0 painted;", 4);
    y.undo();
    y.tie(0, 1, 7, 7);
    KIT.due("a new one isn't painted", y.strand(2, 6), 7);
  }

  private static void forgiving() {
    RopeLedger x = KIT.told(TWO + "debt a b 9 0 0;", 3);
    KIT.due("no such one", x.forgive(1), false);
    KIT.due("no such one", x.forgive(-1), false);
    KIT.due("forgive", x.forgive(0), true);
    KIT.due("again", x.forgive(0), false);
    KIT.due("pay", x.pay(0), false);
    KIT.due("purse", Kit.person(x, 0, 0), 50);
    KIT.due("forgiven", x.count(4), 1);
    KIT.due("there", x.count(2), 0);
    KIT.due("owed", x.count(11), 0);
  }

  private static void paying() {
    RopeLedger x = KIT.told(TWO + "debt a b 50 0 9;debt a b 1 0 9;debt b a 80 0 9;", 5);
    KIT.due("no such one", x.pay(3), false);
    KIT.due("no such one", x.pay(-1), false);
    KIT.due("30 is less than 80", x.pay(2), false);
    KIT.due("50 of 50", x.pay(0), true);
    KIT.due("purse", Kit.person(x, 0, 0), 0);
    KIT.due("purse", Kit.person(x, 1, 0), 80);
    KIT.due("0 is less than 1", x.pay(1), false);
    KIT.due("80 of 80", x.pay(2), true);
    KIT.due("again", x.pay(2), false);
    KIT.due("purse", Kit.person(x, 0, 0), 80);
    KIT.due("purse", Kit.person(x, 1, 0), 0);
    KIT.due("paid", x.count(3), 2);
    KIT.due("status", x.strand(2, 5), 1);
    KIT.due("bears", x.bears(), 1);
  }

  private static void twisting() {
    RopeLedger x = KIT.told(TWO + "debt a b 10 0 9;debt a b 20 0 9;debt b a 30 0 9;debt b a 40 0 9;twist 0 1;", 7);
    KIT.due("it is so", x.twist(0, 1), false);
    KIT.due("it is so", x.twist(1, 0), false);
    KIT.due("itself, without", x.twist(2, 2), false);
    KIT.due("no such one", x.twist(0, 4), false);
    KIT.due("no such one", x.twist(-1, 0), false);
    KIT.due("no such one", x.twist(4, 4), false);
    KIT.due("twist", x.twist(2, 3), true);
    KIT.due("twist of two that have others", x.twist(1, 3), true);
    KIT.due("0", x.strand(0, 7), -1);
    KIT.due("1", x.strand(1, 7), 3);
    KIT.due("2", x.strand(2, 7), -1);
    KIT.due("3", x.strand(3, 7), 1);
    KIT.due("bears", x.bears(), 10 + 30 + 90);
    x.forgive(1);
    KIT.due("not there", x.twist(0, 1), false);
    KIT.due("not there", x.twist(1, 0), false);
    KIT.due("not there", x.twist(1, 1), false);
    KIT.due("still told", x.strand(3, 7), 1);
    KIT.due("undone from the other end", x.twist(3, 3), true);
    KIT.due("undone", x.strand(3, 7), -1);
    KIT.due("undone", x.strand(1, 7), -1);
    KIT.due("without", x.twist(3, 3), false);
  }

  private static void crossing() {
    RopeLedger x = KIT.told(TWO + "plank 60;", 3);
    KIT.due("no such person", x.cross(2, 5), -1);
    KIT.due("no such person", x.cross(-1, 5), -1);
    KIT.due("load", x.cross(0, -1), -1);
    KIT.due("load", x.cross(0, 100), -1);
    KIT.due("60 by 60", x.cross(0, 50), 1);
    KIT.due("61 by 60", x.cross(1, 41), 0);
    KIT.due("stands", Kit.person(x, 0, 3), 1);
    KIT.due("stands", Kit.person(x, 1, 3), 1);
    KIT.due("and back", x.cross(0, 0), 1);
    KIT.due("stands", Kit.person(x, 0, 3), 0);
    KIT.due("load", x.cross(0, 99), 0);
    KIT.due("none of these is told", x.count(7), 0);
    KIT.due("none of these is told", x.count(8), 0);
    KIT.due("can be undone", x.count(15), 2);
  }

  private static void yearsGoBy() {
    RopeLedger x = KIT.told("plank 60;", 1);
    KIT.due("years(-1)", x.years(-1), -1);
    KIT.due("years(100)", x.years(100), -1);
    KIT.due("years(0)", x.years(0), 0);
    for (int i = 1; i <= 10; i++) {
      KIT.due("years(99)", x.years(99), 99 * i);
    }
    KIT.due("behind 999", x.years(10), -1);
    KIT.due("year", x.count(10), 990);
    KIT.due("years(9)", x.years(9), 999);
    KIT.due("behind 999", x.years(1), -1);
    KIT.due("years(0)", x.years(0), 999);
    KIT.due("plank", x.count(12), 60);
  }

  private static void fraying() {
    RopeLedger x = KIT.told(TWO + "debt a b 90 96 99;debt a b 90 97 99 painted;debt b a 90 0 99;twist 0 2;", 6);
    x.years(1);
    KIT.due("2 more", x.strand(0, 3), 98);
    KIT.due("2 more", x.strand(1, 3), 99);
    x.years(1);
    KIT.due("at 100", x.strand(0, 5), 3);
    KIT.due("at 101", x.strand(1, 5), 3);
    KIT.due("snapped", x.count(5), 2);
    KIT.due("told still", x.strand(2, 7), 0);
    KIT.due("bears", x.bears(), 87);
    KIT.due("owed", x.count(11), 90);
    KIT.due("owes", Kit.person(x, 0, 4), 0);
    KIT.due("forgive", x.forgive(0), false);
    x = KIT.told(TWO + "debt a b 90 0 99;law fray 1/0;", 4);
    x.years(1);
    KIT.due("error: 2", x.strand(0, 3), 2);
    x = KIT.told(TWO + "debt a b 90 0 99;law fray 0-5;", 4);
    x.years(9);
    KIT.due("nothing at least", x.strand(0, 3), 0);
    x = KIT.told(TWO + "debt a b 90 0 99;debt a b 90 1 99;law fray 1000;", 5);
    x.years(1);
    KIT.due("99 at most", x.strand(0, 3), 99);
    KIT.due("there", x.strand(0, 5), 0);
    KIT.due("snapped", x.strand(1, 5), 3);
  }

  private static void growing() {
    RopeLedger x = KIT.told(TWO + "debt a b 90 0 99;debt b a 1 0 99;law rent owed / 9;law fray 0;", 6);
    x.years(1);
    KIT.due("10 more", x.strand(0, 2), 100);
    KIT.due("0 more", x.strand(1, 2), 1);
    x = KIT.told(TWO + "debt a b 90 0 99;law rent 100;law fray 0;", 5);
    x.years(1);
    KIT.due("99 at most", x.strand(0, 2), 189);
    x.years(99);
    KIT.due("9990", x.strand(0, 2), 9990);
    x.years(1);
    KIT.due("9999 at most", x.strand(0, 2), 9999);
    x = KIT.told(TWO + "debt a b 90 0 99;law rent 0 - 9;", 4);
    x.years(1);
    KIT.due("never less", x.strand(0, 2), 90);
    x = KIT.told(TWO + "debt a b 90 0 99;law rent 9 / (owed - 90);", 4);
    x.years(1);
    KIT.due("error: 0", x.strand(0, 2), 90);
  }

  private static void dueDebts() {
    RopeLedger x = KIT.told(TWO + "debt a b 60 0 1;debt b a 30 0 2;debt a b 50 0 0;debt b a 20 0 0;", 6);
    x.years(1);
    KIT.due("not due yet", x.strand(0, 5), 0);
    KIT.due("50 of 50", x.strand(2, 5), 1);
    KIT.due("20 of 80 behind it", x.strand(3, 5), 1);
    KIT.due("purse", Kit.person(x, 0, 0), 20);
    KIT.due("purse", Kit.person(x, 1, 0), 60);
    x.years(1);
    KIT.due("60 of 20", x.strand(0, 5), 0);
    x.years(1);
    KIT.due("by numbers: 60 of 20 is asked ahead", x.strand(0, 5), 0);
    KIT.due("30 of 60", x.strand(1, 5), 1);
    KIT.due("purse", Kit.person(x, 0, 0), 50);
    KIT.due("tie", x.tie(1, 0, 10, 0), 4);
    x.years(1);
    KIT.due("due ahead of its year", x.strand(4, 5), 1);
    KIT.due("60 of 50", x.strand(0, 5), 0);
    x.years(1);
    KIT.due("60 of 60 at last", x.strand(0, 5), 1);
    KIT.due("purse", Kit.person(x, 0, 0), 0);
    KIT.due("purse", Kit.person(x, 1, 0), 80);
  }

  /** Crossing, fraying, rent, paying: each step sees what the one ahead of it did. */
  private static void lawsWithinAYear() {
    RopeLedger x = KIT.told(TWO + "debt a b 50 0 0;cross b 30 0;", 4);
    x.years(1);
    KIT.due("it crosses ahead of paying", x.crossing(0, 3), 1);
    KIT.due("paid", x.strand(0, 5), 1);
    x = KIT.told(TWO + "debt a b 40 0 0;law rent frayed + year;law fray 3;", 5);
    x.years(1);
    KIT.due("rent behind fraying, paid with rent", Kit.person(x, 0, 0), 7);
    x = KIT.told(TWO + "debt a b 50 0 0;law rent 1;", 4);
    x.years(1);
    KIT.due("rent is ahead of paying", x.strand(0, 5), 0);
    x = KIT.told(TWO + "debt a b 40 98 0;law rent 1;", 4);
    x.years(1);
    KIT.due("snapped ahead of paying", Kit.person(x, 0, 0), 50);
    x = KIT.told(TWO + "debt a b 40 98 9;debt b a 40 0 9;twist 0 1;law fray 2 + two * 5;", 6);
    x.years(1);
    KIT.due("the twist is gone within the step", x.strand(1, 3), 2);
    x = KIT.told(TWO + "debt b a 40 0 9;debt a b 40 98 9;twist 0 1;law fray 2 + two * 5;", 6);
    x.years(1);
    KIT.due("the twist was still there", x.strand(0, 3), 7);
    x = KIT.told(TWO + "debt b a 40 0 9;debt a b 40 98 9;debt b a 40 0 9;debt a b 40 0 9;twist 0 1;twist 2 3;law rent 3 + two * 5;", 9);
    x.years(1);
    KIT.due("the twist is gone by the next step", x.strand(0, 2), 43);
    KIT.due("what snapped has no rent", x.strand(1, 2), 40);
    KIT.due("the other twist is there", x.strand(2, 2), 48);
    x = KIT.told(TWO + "debt a b 20 0 0;debt b a 30 0 9;cross a 0 0;plank 9;law fray rich;law rent rich / 10;", 8);
    x.years(1);
    KIT.due("frayed by the purse ahead of paying", x.strand(0, 3), 50);
    KIT.due("grown by the purse ahead of paying, paid then", x.strand(0, 2), 25);
    KIT.due("of b, too", x.strand(1, 3), 30);
    KIT.due("of b, too", x.strand(1, 2), 33);
    KIT.due("a has paid 25", Kit.person(x, 0, 0), 25);
  }
}
