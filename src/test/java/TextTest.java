/** Promises 1 to 5: a new object, feed, text, fault, named. */
public final class TextTest {
  private static final Kit KIT = new Kit("TextTest");
  private static final String TWO = "person a east 1 1;person b west 1 1;";

  public static void main(String[] args) {
    fresh();
    tape();
    telling();
    naming();
    misplaced();
    tooMuch();
    toldAlready();
    notToldOrUnfit();
    firstFaultWins();
    aFaultLeavesAll();
    KIT.end();
  }

  private static void fresh() {
    RopeLedger x = new RopeLedger();
    for (int what = 0; what < 16; what++) {
      KIT.due("count(" + what + ") of a new object", x.count(what), 0);
    }
    KIT.due("fault(0)", x.fault(0), 0);
    KIT.due("fault(1)", x.fault(1), -1);
    KIT.due("fault(2)", x.fault(2), -1);
    KIT.due("fault(-1)", x.fault(-1), -1);
    KIT.due("named(0)", x.named(0), -1);
    KIT.due("text(1)", x.text(1), -2);
    KIT.due("text(0)", x.text(0), 0);
    KIT.due("bears()", x.bears(), 0);
  }

  private static void tape() {
    RopeLedger x = new RopeLedger();
    for (int i = 1; i <= 35; i++) {
      KIT.due("feed " + i, x.feed(0x20202020, 0x20202020, 0x20202020, 0x0a0a0a0a, 0x20202020), 20 * i);
    }
    KIT.due("feed 36", x.feed(0, 0, 0, 0, 0), -1);
    KIT.due("text(701)", x.text(701), -2);
    KIT.due("text(-1)", x.text(-1), -2);
    KIT.due("feed 37", x.feed(0, 0, 0, 0, 0), -1);
    KIT.due("text(700)", x.text(700), 0);
    KIT.due("feed behind text", x.feed(0x706c616e, 0x6b20373b, 0x21000000, 0, 0), 20);
    KIT.due("text(9)", x.text(9), -1);
    KIT.due("fault at !", x.fault(1), 8);
    KIT.due("feed behind a fault", x.feed(0x706c616e, 0x6b20373b, 0x21000000, 0, 0), 20);
    KIT.due("text(21)", x.text(21), -2);
    KIT.due("fault stays with -2", x.fault(0), 1);
    KIT.due("the tape stays with -2", x.feed(0, 0, 0, 0, 0), 40);
    KIT.due("text(8)", x.text(8), 1);
    KIT.due("fault(0)", x.fault(0), 0);
    KIT.due("fault(1)", x.fault(1), -1);
    KIT.due("plank", x.count(12), 7);
    cutByN("law bear 1<=2;", 11, 11);
    cutByN("law bear 1>=2;", 10, 10);
    cutByN("planks 1;", 5, 5);
    cutByN("plank 1000;", 9, 9);
    cutByN("person a east 1 1 ;", 18, 18);
  }

  /** What stands on the tape behind the first n bytes isn't read. */
  private static void cutByN(String text, int n, int place) {
    RopeLedger x = new RopeLedger();
    Kit.feed(x, text);
    KIT.due("text(" + n + ") of " + text, x.text(n), -1);
    KIT.due("fault", x.fault(0), 1);
    KIT.due("place", x.fault(1), place);
  }

  private static void telling() {
    RopeLedger x = KIT.told("person\nab west 12 34 ;person c east50 1;debt ab c 007 8 9painted;debt c ab 999 99 99;"
        + "twist 1 0;cross c 99 98;plank 999;seed 99999;law bear(1);", 9);
    KIT.due("persons", x.count(0), 2);
    KIT.due("strands", x.count(1), 2);
    KIT.due("crossings", x.count(6), 1);
    KIT.due("knots", x.count(9), 1);
    KIT.due("purse", Kit.person(x, 0, 0), 12);
    KIT.due("weight", Kit.person(x, 0, 1), 34);
    KIT.due("side", Kit.person(x, 0, 2), 1);
    KIT.due("purse", Kit.person(x, 1, 0), 50);
    KIT.due("owed", x.strand(0, 2), 7);
    KIT.due("painted", x.strand(0, 6), 0);
    KIT.due("twin", x.strand(0, 7), 1);
    KIT.due("twin", x.strand(1, 7), 0);
    KIT.due("owed", x.strand(1, 2), 999);
    KIT.due("year of crossing", x.crossing(0, 2), 98);
    x.years(3);
    x.keep();
    x.tie(0, 1, 5, 5);
    x.see(0, 1, 1, true);
    x.known(1);
    KIT.due("another text", Kit.tell(x, ""), 0);
    KIT.due("year", x.count(10), 0);
    KIT.due("plank", x.count(12), 0);
    KIT.due("sags", x.count(13), 0);
    KIT.due("known", x.count(14), 0);
    KIT.due("to undo", x.count(15), 0);
    KIT.due("no strands told", x.painted(), 1);
    KIT.due("no image", x.back(), -1);
    KIT.due("no undo", x.undo(), -1);
    x.see(0, 1, 1, true);
    KIT.due("all known", x.count(14), 1);
  }

  private static void naming() {
    RopeLedger x = KIT.told("person a east 1 1;person zzzzzz west 1 1;person ab east 1 1;", 3);
    KIT.due("named a", x.named(1 << 25), 0);
    KIT.due("named zzzzzz", x.named(Kit.letters("zzzzzz")), 1);
    KIT.due("named ab", x.named(Kit.letters("ab")), 2);
    KIT.due("named b", x.named(Kit.letters("b")), -1);
    KIT.due("named 1", x.named(1), -1);
    KIT.due("named 0", x.named(0), -1);
    KIT.due("named with higher bits", x.named(1 << 25 | 1 << 30), -1);
    KIT.due("named below 0", x.named(-1), -1);
  }

  private static void fault(String text, int number, int place) {
    KIT.fault(text, number, place);
  }

  private static void sound(String text, int lines) {
    KIT.told(text, lines);
  }

  private static void misplaced() {
    fault("x", 1, 0);
    fault(";", 1, 0);
    fault(" ;", 1, 1);
    fault("plank", 1, 5);
    fault("plank ", 1, 6);
    fault("plank 1", 1, 7);
    fault("plank 1 \n", 1, 9);
    fault("plank x;", 1, 6);
    fault("plank -1;", 1, 6);
    fault("plank 1;\t", 1, 8);
    fault("plank 1;\r", 1, 8);
    fault("plank 1;\u00e9", 1, 8);
    fault("Plank 1;", 1, 0);
    fault("plank 1 1;", 1, 8);
    fault("person", 1, 6);
    fault("person east east 1 1;", 1, 7);
    fault("person painted east 1 1;", 1, 7);
    fault("person or east 1 1;", 1, 7);
    fault("person abcdefg east 1 1;", 1, 7);
    sound("person abcdef east 1 1;", 1);
    fault("person 1 east 1 1;", 1, 7);
    fault("person a bear 1 1;", 1, 9);
    fault("person a east 1;", 1, 15);
    fault(TWO + "debt a b 1 1 1 paint;", 1, 51);
    fault(TWO + "debt a b 1 1 1 painted painted;", 1, 59);
    fault(TWO + "debt 1 b 1 1 1;", 1, 41);
    fault(TWO + "debt a b 1 1 1;twist 0;", 1, 58);
    fault(TWO + "debt a b 1 1 1;twist a 0;", 1, 57);
    fault("law east 1;", 1, 4);
    fault("law twist 1;", 1, 4);
    fault("law bear ;", 1, 9);
    fault("law bear 1", 1, 10);
    fault("law bear a;", 1, 9);
    fault("law bear 1 2;", 1, 11);
    fault("law bear (1;", 1, 11);
    fault("law bear 1);", 1, 10);
    fault("law bear ();", 1, 10);
    fault("law bear -1;", 1, 9);
    fault("law bear 1+;", 1, 11);
    fault("law bear 1 + not 2;", 1, 13);
    fault("law bear 1 < not 2;", 1, 13);
    fault("law bear 1 not 2;", 1, 11);
    fault("law bear 1 < 2 < 3;", 1, 15);
    fault("law bear 1 = 2 + 3 > 3;", 1, 19);
    fault("law bear not 1 = 2 <> 3;", 1, 19);
    fault("law bear 1 > = 2;", 1, 13);
    fault("law bear 1 =< 2;", 1, 12);
    fault("law bear 1 >< 2;", 1, 12);
    fault("law bear 1 and;", 1, 14);
    fault("law bear and 1;", 1, 9);
    fault("law bear not;", 1, 12);
    fault("law bear painted;", 1, 9);
    fault("law bear (1 or 2)(3);", 1, 17);
    sound("law bear (1 < 2) < 3 and not 1 <= 2 or not not 1 <> (3 >= 4);", 1);
    sound("law bear not(not 1);law fray((((((((1))))))));law rent 9999;", 3);
  }

  private static void tooMuch() {
    fault("person a east 1000 1;", 2, 14);
    fault("person a east 99999999999999999999 1;", 2, 14);
    sound("person a east 999 99;", 1);
    sound("person a east 0 1;", 1);
    fault("person a east 1 100;", 2, 16);
    fault("person a east 1 0;", 2, 16);
    fault(TWO + "debt a b 1000 0 0;", 2, 45);
    fault(TWO + "debt a b 0 0 0;", 2, 45);
    fault(TWO + "debt a b 1 100 0;", 2, 47);
    fault(TWO + "debt a b 1 0 100;", 2, 49);
    fault(TWO + "cross a 100 0;", 2, 44);
    fault(TWO + "cross a 0 100;", 2, 46);
    sound(TWO + "cross a 99 99;cross b 0 0;debt a b 999 99 99;debt b a 1 0 0;", 6);
    sound("plank 999;seed 99999;", 2);
    sound("plank 0;seed 0;law bear 0;law fray 9999;", 4);
    fault("plank 1000;", 2, 6);
    fault("seed 100000;", 2, 5);
    fault("law bear 10000;", 2, 9);
    fault("law bear 1 + 123456;", 2, 13);
    String ten = TWO + "debt a b 1 0 0;".repeat(10);
    sound(ten, 12);
    fault(ten + "debt a b 1 0 0;", 2, ten.length());
    fault(ten + "debt", 2, ten.length());
    String eight = TWO + "cross b 1 0;".repeat(8);
    sound(eight, 10);
    fault(eight + "cross b 1 0;", 2, eight.length());
    String six = TWO + "person c east 1 1;person d east 1 1;person e east 1 1;person f east 1 1;";
    sound(six, 6);
    fault(six + "person a east 1 1;", 2, six.length());
    fault("law bear ((((((((1 + (2", 2, 21);
    sound("law bear ((((((((1))))))))+((((((((1))))))));", 1);
    String knots = "law bear 1" + "+1".repeat(31) + ";";
    sound(knots, 1);
    fault(knots + "law fray 1+1;", 2, knots.length() + 10);
    sound(knots + "law fray 1;", 2);
    fault(knots + "law fray owed<2;", 2, knots.length() + 13);
    fault(knots + "law fray (((1)+2", 2, knots.length() + 14);
    fault(knots + "law fray not 2;", 2, knots.length() + 13);
    fault(knots + "law fray 1 x;", 1, knots.length() + 11);
    RopeLedger full = KIT.told(TWO + "debt a b 1 0 0;" + knots + "law rent 7;", 5);
    KIT.due("all 64 are worked out", full.law(0, 0), 32);
    KIT.due("all 64 are worked out", full.law(2, 0), 7);
    KIT.due("knots", KIT.told(knots + "law fray ((((age))));", 2).count(9), 64);
    KIT.due("knots", KIT.told("law bear not owed and 3 or (4 <= 5) * 2;", 1).count(9), 10);
  }

  private static void toldAlready() {
    fault("person a east 1 1;person a west 1 1;", 3, 25);
    fault("plank 1;plank x", 3, 8);
    fault("seed 1;plank 1;seed 1;", 3, 15);
    fault("law rent 1;law rent 1;", 3, 15);
    fault("law rent 1;law fray 1;law fray", 3, 26);
  }

  private static void notToldOrUnfit() {
    fault("person a east 1 1;debt b a 1 0 0;", 4, 23);
    fault(TWO + "debt a c 1 0 0;", 4, 43);
    fault("cross a 1 1;", 4, 6);
    fault(TWO + "debt a b 1 0 0;twist 1 0;", 4, 57);
    fault(TWO + "debt a b 1 0 0;twist 0 9999999999;", 4, 59);
    fault(TWO + "debt a a 1 0 0;", 5, 43);
    fault(TWO + "person c west 1 1;debt b c 1 0 0;", 5, 61);
    fault(TWO + "debt a b 1 0 0;twist 0 0;", 5, 59);
    String three = TWO + "debt a b 1 0 0;debt b a 1 0 0;debt a b 1 0 0;twist 0 1;";
    fault(three + "twist 2 1;", 5, three.length() + 8);
    fault(three + "twist 1 2;", 5, three.length() + 6);
    fault(three + "twist 3 2;", 4, three.length() + 6);
  }

  private static void firstFaultWins() {
    fault("plank 1000;!", 2, 6);
    fault("plank 1;plank 1000;", 3, 8);
    fault("person a east 1 1;debt a a 0 0 0;", 5, 25);
    fault("person a east 1 1;debt c c 0 0 0;", 4, 23);
    fault("person a east 1000 !;", 2, 14);
  }

  private static void aFaultLeavesAll() {
    RopeLedger x = KIT.told(TWO + "debt a b 9 0 9;plank 3;law bear 7;", 5);
    x.years(2);
    x.keep();
    x.tie(1, 0, 4, 4);
    x.see(0, 10, 5, true);
    KIT.due("a fault late in a text", Kit.tell(x, "person z west 5 5;plank 8;law bear 9;!"), -1);
    KIT.due("bears", x.bears(), 17);
    KIT.due("year", x.count(10), 2);
    KIT.due("persons", x.count(0), 2);
    KIT.due("knots", x.count(9), 1);
    KIT.due("sags", x.count(13), 1);
    KIT.due("undo", x.undo(), 0);
    KIT.due("bears", x.bears(), 10);
    KIT.due("back", x.back(), 2);
    KIT.due("named", x.named(Kit.letters("b")), 1);
    KIT.due("named", x.named(Kit.letters("z")), -1);
    KIT.due("painted", x.painted(), 3);
  }
}
