/** Promises 6 to 11: person, strand, crossing, law, bears, sag. */
public final class StandTest {
  private static final Kit KIT = new Kit("StandTest");
  private static final String TWO = "person a east 50 10;person b west 30 20;";

  public static void main(String[] args) {
    persons();
    strands();
    crossings();
    laws();
    errors();
    ruledBearing();
    sags();
    KIT.end();
  }

  private static void persons() {
    RopeLedger x = KIT.told(TWO + "person c east 7 8;debt a b 40 0 2;debt b a 30 50 1;debt c b 5 0 9;debt a b 6 99 9;", 7);
    KIT.due("purse", Kit.person(x, 2, 0), 7);
    KIT.due("weight", Kit.person(x, 2, 1), 8);
    KIT.due("side", Kit.person(x, 1, 2), 1);
    KIT.due("stands", Kit.person(x, 1, 3), 1);
    KIT.due("owes", Kit.person(x, 0, 4), 46);
    KIT.due("is owed", Kit.person(x, 0, 5), 30);
    KIT.due("owes", Kit.person(x, 1, 4), 30);
    KIT.due("is owed", Kit.person(x, 1, 5), 51);
    KIT.due("owes", Kit.person(x, 2, 4), 5);
    KIT.due("is owed", Kit.person(x, 2, 5), 0);
    KIT.due("no such what", Kit.person(x, 0, 6), Kit.NO_WHAT);
    KIT.due("no such what", Kit.person(x, 0, -1), Kit.NO_WHAT);
    KIT.due("no such person", Kit.person(x, 3, 0), Kit.NO_PERSON);
    KIT.due("no such person", Kit.person(x, -1, 0), Kit.NO_PERSON);
    KIT.due("no such person, no such what", Kit.person(x, 3, 6), Kit.NO_PERSON);
    x.forgive(0);
    KIT.due("owes without what is forgiven", Kit.person(x, 0, 4), 6);
    x.years(1);
    KIT.due("owes without what has snapped", Kit.person(x, 0, 4), 0);
    KIT.due("snapped", x.strand(3, 5), 3);
  }

  private static void strands() {
    RopeLedger x = KIT.told(TWO + "debt a b 40 7 2;debt b a 30 50 1 painted;debt b a 99 99 9;twist 1 0;", 6);
    int[] want = {0, 1, 40, 7, 2, 0, 38, 1, 0};
    for (int what = 0; what < want.length; what++) {
      KIT.due("strand(0, " + what + ")", x.strand(0, what), want[what]);
    }
    KIT.due("painted bears nothing", x.strand(1, 6), 0);
    KIT.due("99 of 100 cut", x.strand(2, 6), 1);
    KIT.due("no twist", x.strand(2, 7), -1);
    KIT.due("no such what", x.strand(0, 9), -1);
    KIT.due("no such what", x.strand(0, -1), -1);
    KIT.due("no such strand", x.strand(3, 0), -1);
    KIT.due("no such strand", x.strand(-1, 0), -1);
    x.years(3);
    KIT.due("tied", x.tie(0, 1, 5, 50), 3);
    KIT.due("its year", x.strand(3, 8), 3);
    KIT.due("not frayed", x.strand(3, 3), 0);
    x.forgive(3);
    KIT.due("forgiven bears nothing", x.strand(3, 6), 0);
    KIT.due("forgiven", x.strand(3, 5), 2);
  }

  private static void crossings() {
    RopeLedger x = KIT.told(TWO + "cross b 5 1;cross a 90 0;cross a 3 0;cross b 4 0;plank 24;", 7);
    KIT.due("person", x.crossing(0, 0), 1);
    KIT.due("load", x.crossing(0, 1), 5);
    KIT.due("year", x.crossing(0, 2), 1);
    KIT.due("to come", x.crossing(0, 3), 0);
    KIT.due("no such what", x.crossing(0, 4), -1);
    KIT.due("no such what", x.crossing(0, -1), -1);
    KIT.due("no such crossing", x.crossing(4, 0), -1);
    KIT.due("no such crossing", x.crossing(-1, 0), -1);
    x.years(1);
    KIT.due("to come", x.crossing(0, 3), 0);
    KIT.due("100 by 24", x.crossing(1, 3), 2);
    KIT.due("13 by 24", x.crossing(2, 3), 1);
    KIT.due("24 by 24", x.crossing(3, 3), 1);
    KIT.due("a is west", Kit.person(x, 0, 3), 1);
    KIT.due("b is east", Kit.person(x, 1, 3), 0);
    KIT.due("b's own side", Kit.person(x, 1, 2), 1);
    KIT.due("made", x.count(7), 2);
    KIT.due("refused", x.count(8), 1);
    x.years(1);
    KIT.due("25 by 24", x.crossing(0, 3), 2);
    KIT.due("b stays", Kit.person(x, 1, 3), 0);
  }

  private static long worth(String e) {
    return KIT.told(TWO + "debt a b 40 7 2;law rent " + e + ";", 4).law(2, 0);
  }

  private static void laws() {
    KIT.due("no such law", KIT.told(TWO + "debt a b 4 0 2;", 3).law(0, 0), Long.MIN_VALUE);
    RopeLedger x = KIT.told(TWO + "debt a b 40 7 60;debt b a 1 2 3 painted;twist 0 1;law bear owed * 1000000;"
        .replace("1000000", "1000 * 1000") + "law fray owed - 999;law rent two;", 8);
    KIT.due("a law isn't cut to what it may be", x.law(0, 0), 40000000);
    KIT.due("below 0", x.law(1, 0), -959);
    KIT.due("of a painted one", x.law(1, 1), -998);
    KIT.due("two", x.law(2, 0), 1);
    KIT.due("no such what", x.law(3, 0), Long.MIN_VALUE);
    KIT.due("no such what", x.law(-1, 0), Long.MIN_VALUE);
    KIT.due("no such strand", x.law(0, 2), Long.MIN_VALUE);
    KIT.due("no such strand", x.law(0, -1), Long.MIN_VALUE);
    x.forgive(1);
    KIT.due("not there", x.law(0, 1), Long.MIN_VALUE);
    KIT.due("two, but it isn't there", x.law(2, 0), 0);

    x = KIT.told(TWO + "debt a b 40 7 60;law bear owed*1000+frayed;law fray age * 100 + due;law rent year*100+rich;", 6);
    KIT.due("owed and frayed", x.law(0, 0), 40007);
    KIT.due("age and due", x.law(1, 0), 60);
    KIT.due("year and rich", x.law(2, 0), 50);
    x.years(2);
    KIT.due("tie", x.tie(1, 0, 5, 70), 1);
    x.years(1);
    KIT.due("age and due", x.law(1, 1), 170);
    KIT.due("year and rich", x.law(2, 1), 330);

    KIT.due("times binds more", worth("2 + 3 * 4"), 14);
    KIT.due("from the left", worth("10 - 3 - 2"), 5);
    KIT.due("from the left", worth("100 / 10 / 2 * 3"), 15);
    KIT.due("brackets", worth("(2 + 3) * 4"), 20);
    KIT.due("cut towards 0", worth("(0 - 7) / 2"), -3);
    KIT.due("cut towards 0", worth("7 / (0 - 2)"), -3);
    KIT.due("comparison behind sums", worth("1 + 2 < 2 * 2"), 1);
    KIT.due("less", worth("(1<2) + (2<2)*10 + (3<2)*100"), 1);
    KIT.due("at most", worth("(1<=2) + (2<=2)*10 + (3<=2)*100"), 11);
    KIT.due("equal", worth("(1=2) + (2=2)*10 + (3=2)*100"), 10);
    KIT.due("unlike", worth("(1<>2) + (2<>2)*10 + (3<>2)*100"), 101);
    KIT.due("at least", worth("(1>=2) + (2>=2)*10 + (3>=2)*100"), 110);
    KIT.due("more", worth("(1>2) + (2>2)*10 + (3>2)*100"), 100);
    KIT.due("and", worth("(0 and 0) + (0 and 7)*10 + (7 and 0)*100 + (7 and 5)*1000"), 1000);
    KIT.due("or", worth("(0 or 0) + (0 or 7)*10 + (7 or 0)*100 + (7 or 5)*1000"), 1110);
    KIT.due("not", worth("(not 0) + (not 7)*10 + (not not 7)*100"), 101);
    KIT.due("and ahead of or", worth("1 or 0 and 0"), 1);
    KIT.due("and ahead of or", worth("0 and 0 or 1"), 1);
    KIT.due("not is of one comparison", worth("not 1 = 2"), 1);
    KIT.due("not is ahead of and", worth("not 1 and 0"), 0);
    KIT.due("not is ahead of or", worth("not 0 or 1"), 1);
    KIT.due("below 0 is so", worth("(0 - 5) and 1"), 1);
  }

  private static void errors() {
    long error = Long.MIN_VALUE;
    KIT.due("by 0", worth("1 / 0"), error);
    KIT.due("by 0 at the side of and", worth("0 and 1 / 0"), error);
    KIT.due("by 0 at the side of or", worth("1 or 1 / (2 - 2)"), error);
    KIT.due("times nothing", worth("1 / 0 * 0"), error);
    KIT.due("10 to the 12", worth("1000 * 1000 * 1000 * 1000"), 1000000000000L);
    KIT.due("and 1", worth("1000 * 1000 * 1000 * 1000 + 1"), error);
    KIT.due("and 1 less", worth("1000 * 1000 * 1000 * 1000 + 1 - 1"), error);
    KIT.due("below", worth("0 - 1000 * 1000 * 1000 * 1000"), -1000000000000L);
    KIT.due("below", worth("0 - 1000 * 1000 * 1000 * 1000 - 1"), error);
    KIT.due("out of a long", worth("(1000 * 1000 * 1000) * (1000 * 1000 * 1000 * 100)"), error);
    KIT.due("wrapped to 0", worth("(8192 * 8192 * 64) * (8192 * 8192 * 64)"), error);
    KIT.due("wrapped below", worth("(0 - 8192 * 8192 * 64) * (8192 * 8192 * 64)"), error);
    KIT.due("just so", worth("(0 - 1000 * 1000) * (1000 * 1000)"), -1000000000000L);
    KIT.due("by one", worth("1000 * 1000 * 1000 * 1000 / 1000"), 1000000000L);
  }

  private static int bearing(String debt, String e) {
    return KIT.told(TWO + debt + "law bear " + e + ";", 4).bears();
  }

  private static void ruledBearing() {
    KIT.due("by law", bearing("debt a b 40 7 2;", "17"), 17);
    KIT.due("9999 at most", bearing("debt a b 40 7 2;", "9999 + 1"), 9999);
    KIT.due("nothing at least", bearing("debt a b 40 7 2;", "0 - 1"), 0);
    KIT.due("error", bearing("debt a b 40 7 2;", "1 / 0"), 38);
    KIT.due("painted", bearing("debt a b 40 7 2 painted;", "5"), 0);
    KIT.due("painted, error", bearing("debt a b 40 7 2 painted;", "5/0"), 0);
    RopeLedger x = KIT.told(TWO + "debt a b 40 7 2;debt a b 40 7 2;debt a b 1 0 9;twist 0 1;plank 100;law bear owed / 9 + two * 3;", 8);
    KIT.due("a twist: 7 and 7 and half of it, plank, 0", x.bears(), 121);
    KIT.due("alone", x.strand(0, 6), 7);
    x.forgive(1);
    KIT.due("no twist then: 4", x.bears(), 104);
    KIT.due("no twist then", x.strand(0, 6), 4);
    x = KIT.told(TWO + "debt a b 4 0 2;debt a b 3 0 2;twist 0 1;", 5);
    KIT.due("7 and half, cut", x.bears(), 10);
  }

  private static void sags() {
    RopeLedger x = KIT.told("plank 87;", 1);
    KIT.due("sag(10)", x.sag(10), 11);
    KIT.due("sag(1)", x.sag(1), 1);
    KIT.due("sag(999)", x.sag(999), 1148);
    KIT.due("sag(0)", x.sag(0), -1);
    KIT.due("sag(1000)", x.sag(1000), -1);
    x = KIT.told("plank 9;", 1);
    KIT.due("sag(899)", x.sag(899), 9988);
    KIT.due("sag(900)", x.sag(900), 9999);
    x = KIT.told("", 0);
    KIT.due("sag(1)", x.sag(1), 9999);
    KIT.due("sag(-1)", x.sag(-1), -1);
  }
}
