/** Promises 18 to 25: order, drop, loan, strike, twists, partner, life, ahead. */
public final class SearchTest {
  private static final Kit KIT = new Kit("SearchTest");
  private static final String TWO = "person a east 50 10;person b west 30 20;";

  public static void main(String[] args) {
    orders();
    ordersOfMany();
    ordersByRiches();
    drops();
    loans();
    strikes();
    twists();
    lives();
    aheads();
    KIT.end();
  }

  private static void orders() {
    RopeLedger x = KIT.told(TWO + "debt b a 60 0 9;debt a b 40 0 9;debt a b 5 0 9;debt b a 1 99 9;plank 3;", 7);
    KIT.due("b can't pay 60 at first", x.order(3, 0, 0), 1);
    KIT.due("then it can", x.order(3, 0, 1), 0);
    KIT.due("not so many", x.order(3, 0, 2), -2);
    KIT.due("below 0", x.order(3, 0, -1), -1);
    KIT.due("first by strands", x.order(6, 0, 0), 1);
    KIT.due("first by strands", x.order(7, 0, 1), 0);
    KIT.due("first by strands", x.order(7, 0, 2), 2);
    KIT.due("the bridge bears 9 behind all", x.order(3, 9, 0), 1);
    KIT.due("but not 10", x.order(3, 10, 0), -2);
    KIT.due("b can't pay", x.order(1, 0, 0), -2);
    KIT.due("no such strand", x.order(16, 0, 0), -1);
    KIT.due("no such strands", x.order(-1, 0, 0), -1);
    KIT.due("no such strands", x.order(Integer.MIN_VALUE, 0, 0), -1);
    KIT.due("load", x.order(3, -1, 0), -1);
    KIT.due("load", x.order(3, 10000, 0), -1);
    KIT.due("load", x.order(3, 9999, 0), -2);
    KIT.due("none", x.order(0, 0, 0), -2);
    x.forgive(2);
    KIT.due("one isn't there", x.order(4, 0, 0), -1);
    KIT.due("one isn't there", x.order(7, 0, 5), -1);
    KIT.due("nothing is done", x.count(3), 0);
    KIT.due("purse", Kit.person(x, 0, 0), 50);
  }

  private static void ordersOfMany() {
    RopeLedger x = KIT.told(TWO + "debt b a 60 0 9;" + "debt a b 1 0 9;".repeat(4) + "debt a b 40 0 9;" + "debt a b 2 0 9;".repeat(4), 12);
    x.tie(1, 0, 20, 9);
    x.tie(1, 0, 999, 9);
    KIT.due("5 first", x.order(33, 0, 0), 5);
    KIT.due("then 0", x.order(33, 0, 1), 0);
    KIT.due("the last is never paid", x.order(4095, 0, 0), -2);
    int[] want = {1, 2, 3, 4, 5, 0, 6, 7, 8, 9, 10};
    for (int k = 0; k < want.length; k++) {
      KIT.due("eleven, k " + k, x.order(2047, 999, k), want[k]);
    }
    KIT.due("eleven, load 1000", x.order(2047, 1000, 0), -2);
    KIT.due("twelve are no more", x.order(4096, 0, 0), -1);
  }

  /** The bridge bears by how rich people are, so one order holds and another doesn't. */
  private static void ordersByRiches() {
    RopeLedger x = KIT.told(TWO + "debt a b 40 0 9;debt b a 30 0 9;debt a b 1 0 9;law bear rich * (owed = 1);", 6);
    KIT.due("it bears 10, then 40", x.order(3, 10, 0), 0);
    KIT.due("1 first: it bears 80", x.order(3, 11, 0), 1);
    KIT.due("1 first", x.order(3, 40, 0), 1);
    KIT.due("then 0", x.order(3, 40, 1), 0);
    KIT.due("asked again", x.order(3, 10, 0), 0);
    KIT.due("41 can't be", x.order(3, 41, 0), -2);
    KIT.due("it bears 50 now, but that isn't asked", x.order(2, 80, 0), 1);
    KIT.due("81 can't be", x.order(2, 81, 0), -2);
  }

  private static void drops() {
    RopeLedger x = KIT.told(TWO + "debt a b 10 0 9;debt a b 20 0 9;debt b a 20 0 9;debt b a 15 0 9;plank 5;", 7);
    KIT.due("it bears 70", x.drop(71), 0);
    KIT.due("one: the least of several", x.drop(70), 1);
    KIT.due("one, of 20", x.drop(55), 2);
    KIT.due("one, of 15", x.drop(56), 2);
    KIT.due("10 isn't enough", x.drop(60), 2);
    KIT.due("10 is enough", x.drop(61), 1);
    KIT.due("two", x.drop(41), 3);
    KIT.due("two of 20", x.drop(40), 6);
    KIT.due("two of 20", x.drop(31), 6);
    KIT.due("three", x.drop(30), 7);
    KIT.due("four", x.drop(6), 15);
    KIT.due("by none", x.drop(5), -2);
    KIT.due("load", x.drop(0), -1);
    KIT.due("load", x.drop(10000), -1);
    KIT.due("load", x.drop(9999), 0);
    x.twist(0, 3);
    KIT.due("a twist is cut with one of it: 82 to 60", x.drop(66), 1);
    KIT.due("82 to 55", x.drop(60), 8);
    x = KIT.told(TWO + "debt a b 10 0 9;debt a b 20 0 9;debt b a 20 0 9;twist 0 2;law bear owed - two * 10;", 7);
    KIT.due("it bears 35", x.drop(36), 0);
    KIT.due("without 2 there is no twist: 10 and 20", x.drop(31), 2);
    KIT.due("without 1: 15", x.drop(16), 2);
    KIT.due("without 0 it bears more", x.drop(35), 2);
    x.forgive(1);
    KIT.due("of those there", x.drop(15), 4);
    KIT.due("all of them", x.drop(1), 5);
  }

  private static void loans() {
    RopeLedger x = KIT.told(TWO + "debt a b 10 0 9;plank 7;", 4);
    KIT.due("it bears 17", x.loan(17), 0);
    KIT.due("one more", x.loan(18), 1);
    KIT.due("999", x.loan(1016), 999);
    KIT.due("by none", x.loan(1017), -2);
    KIT.due("load", x.loan(0), -1);
    KIT.due("load", x.loan(10000), -1);
    KIT.due("load", x.loan(9999), -2);
    KIT.due("none is tied", x.count(1), 1);
    x = KIT.told(TWO + "law bear owed * due + rich * 1000 + age * 1000 + frayed * 1000 + two * 1000 + year;", 3);
    KIT.due("due in 99", x.loan(1000), 11);
    KIT.due("due in 99", x.loan(990), 10);
    x.years(5);
    KIT.due("the year counts", x.loan(995), 10);
    x = KIT.told(TWO + "law bear (owed = 500) * 30 + (owed > 700) * 40;", 3);
    KIT.due("the least, not by halves", x.loan(30), 500);
    KIT.due("the least", x.loan(31), 701);
    KIT.due("by none", x.loan(41), -2);
    x = KIT.told(TWO + "law bear 1 / (owed - 3) * 0 + 2;plank 1;", 4);
    KIT.due("with an error: owed", x.loan(4), 3);
    x = KIT.told(TWO + "law bear 0 - 5;", 3);
    KIT.due("nothing at least", x.loan(1), -2);
  }

  private static void strikes() {
    RopeLedger x = KIT.told(TWO + "person c west 1 1;debt a b 10 0 9;debt a b 20 0 9;debt b a 25 0 9;debt c a 9 0 9;", 7);
    KIT.due("30 and 25", x.strike(0, 1), 25);
    KIT.due("30 and 25", x.strike(1, 0), 25);
    KIT.due("0 and 9", x.strike(0, 2), 0);
    KIT.due("of one side", x.strike(1, 2), 0);
    KIT.due("alike", x.strike(1, 1), -1);
    KIT.due("no such one", x.strike(3, 1), -1);
    KIT.due("no such one", x.strike(1, 3), -1);
    KIT.due("no such one", x.strike(-1, 1), -1);
    KIT.due("no such one", x.strike(1, -1), -1);
    x.forgive(1);
    KIT.due("10 and 25", x.strike(0, 1), 10);
  }

  private static void twists() {
    RopeLedger x = KIT.told(TWO + "debt a b 10 0 9;debt a b 7 0 9;debt b a 9 0 9;debt b a 4 0 9;debt a b 4 0 9;twist 0 4;plank 1;", 9);
    KIT.due("none", x.twists(0), 35);
    KIT.due("10 and 9", x.twists(1), 44);
    KIT.due("10 and 4, 7 and 9", x.twists(2), 35 + 15);
    KIT.due("no more", x.twists(5), 50);
    KIT.due("k", x.twists(6), -1);
    KIT.due("k", x.twists(-1), -1);
    KIT.due("0 is with 2", x.partner(1, 0), 2);
    KIT.due("1 is alone", x.partner(1, 1), -2);
    KIT.due("2 is with 0", x.partner(1, 2), 0);
    KIT.due("10 is with 4", x.partner(2, 0), 3);
    KIT.due("7 is with 9", x.partner(2, 1), 2);
    KIT.due("9 is with 7", x.partner(2, 2), 1);
    KIT.due("4 is with 10", x.partner(2, 3), 0);
    KIT.due("4 is alone", x.partner(2, 4), -2);
    KIT.due("none", x.partner(0, 0), -2);
    KIT.due("k 5", x.partner(5, 0), 3);
    KIT.due("no such k", x.partner(6, 0), -1);
    KIT.due("no such k", x.partner(-1, 0), -1);
    KIT.due("no such strand", x.partner(1, 5), -1);
    KIT.due("no such strand", x.partner(1, -1), -1);
    KIT.due("nothing is done", x.strand(0, 7), 4);
    x.forgive(2);
    KIT.due("isn't there", x.partner(1, 2), -1);
    KIT.due("17", x.twists(1), 26 + 8);
    KIT.due("with 1", x.partner(1, 0), 1);
    x = KIT.told(TWO + "debt a b 8 0 9;debt a b 8 0 9;twist 0 1;law bear owed - two * 8;", 6);
    KIT.due("each as without a twist", x.twists(1), 24);
    x = KIT.told(TWO + "debt a b 1 0 9;debt a b 8 0 9 painted;debt b a 7 0 9;debt b a 9 0 9;", 6);
    KIT.due("16 and half of it, 1", x.twists(2), 25);
    KIT.due("none is first: what adds nothing isn't made", x.partner(2, 0), -2);
    KIT.due("none is first", x.partner(2, 1), -2);
    KIT.due("3", x.partner(2, 2), 3);
  }

  private static void lives() {
    RopeLedger x = KIT.told(TWO + "debt a b 40 0 2;debt b a 300 50 1;debt a b 20 0 9;debt a b 9 99 9;", 6);
    KIT.due("paid at the end of year 2", x.life(0), 3);
    KIT.due("snaps", x.life(1), 25);
    KIT.due("never paid, snaps", x.life(2), 50);
    KIT.due("snaps", x.life(3), 1);
    KIT.due("no such one", x.life(4), -1);
    KIT.due("no such one", x.life(-1), -1);
    KIT.due("no year went by", x.count(10), 0);
    x.years(2);
    KIT.due("one more", x.life(0), 1);
    KIT.due("it isn't", x.life(3), 0);
    x = KIT.told(TWO + "debt a b 90 0 0;law fray 0;", 4);
    KIT.due("99 at most", x.life(0), 99);
    x = KIT.told(TWO + "debt a b 90 0 0;law fray year = 97;law bear 0;", 5);
    KIT.due("99 at most", x.life(0), 99);
  }

  private static void aheads() {
    RopeLedger x = KIT.told(TWO + "cross a 91 3;cross b 81 1;cross a 1 0;cross a 99 1;plank 100;", 7);
    KIT.due("year 0", x.ahead(1), -2);
    KIT.due("no year", x.ahead(0), -2);
    KIT.due("year 1", x.ahead(2), 1);
    KIT.due("the first", x.ahead(99), 1);
    KIT.due("n", x.ahead(-1), -1);
    KIT.due("n", x.ahead(100), -1);
    KIT.due("to come", x.crossing(1, 3), 0);
    x.years(2);
    KIT.due("year 3", x.ahead(1), -2);
    KIT.due("year 3", x.ahead(2), 0);
    x.years(2);
    KIT.due("no more", x.ahead(99), -2);
  }
}
