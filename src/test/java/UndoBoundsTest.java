/** Bounds of undoing and of images (part 4), of what is counted, and of a new object: promises 1 and 35 to 38. */
public final class UndoBoundsTest {
  private static final Kit KIT = new Kit("UndoBoundsTest");
  private static final String TWO = "person a east 50 10;person b west 30 20;";
  private static final String SOME = TWO + "debt a b 10 0 99;debt a b 20 0 99;debt b a 30 0 99;twist 0 1;cross a 1 0;cross a 99 1;cross b 0 5;";

  public static void main(String[] args) {
    aNewObject();
    undoingNothing();
    undoingEachKind();
    undoingTwenty();
    undoingOverTheEnd();
    undoingBehindAYear();
    undoingWhatWasRefused();
    undoingAsked();
    imagesOfNothing();
    imagesOfAll();
    imagesInPlaceOfOneAhead();
    imagesAndTexts();
    imagesAndUndoing();
    imagesAndSags();
    imagesAndTheTape();
    countsAsked();
    countsOfStrands();
    countsOfCrossings();
    KIT.end();
  }

  /** "A TEXT without LINES; an empty TAPE." */
  private static void aNewObject() {
    RopeLedger x = new RopeLedger();
    for (int what = 0; what <= 15; what++) {
      KIT.due("count(" + what + ")", x.count(what), 0);
    }
    KIT.due("an empty tape", x.text(1), -2);
    KIT.due("an empty tape", x.feed(0x20202020, 0x20202020, 0x20202020, 0x20202020, 0x20202020), 20);
    RopeLedger y = new RopeLedger();
    KIT.due("another one's tape is its own", y.text(1), -2);
    KIT.due("years go by", y.years(99), 99);
    KIT.due("it is kept", y.keep(), 99);
    KIT.due("the other one is as it was", x.count(10), 0);
    KIT.due("the other one has no image", x.back(), -1);
    KIT.due("nothing ahead", x.ahead(99), -2);
    KIT.due("nothing to tie", x.tie(0, 1, 1, 1), -1);
  }

  /** "how many are left; NONE: none." */
  private static void undoingNothing() {
    KIT.due("of nothing", new RopeLedger().undo(), -1);
    RopeLedger x = KIT.sound(SOME);
    String before = Kit.all(x);
    KIT.due("none", x.undo(), -1);
    KIT.due("none again", x.undo(), -1);
    KIT.stays("undo() of none", Kit.all(x), before);
    x.forgive(0);
    KIT.due("one", x.undo(), 0);
    KIT.due("no more", x.undo(), -1);
    KIT.stays("undo()", Kit.all(x), before);
  }

  /** "Tying, forgiving, paying, twisting, crossing by call can be undone, the latest first". */
  private static void undoingEachKind() {
    RopeLedger x = KIT.sound(SOME);
    String[] states = new String[7];
    states[0] = Kit.all(x);
    x.tie(1, 0, 25, 3);
    states[1] = Kit.all(x);
    x.forgive(0);
    states[2] = Kit.all(x);
    x.pay(1);
    RopeLedger y = KIT.sound(SOME);
    y.pay(2);
    y.twist(0, 1);
    KIT.due("a twist that is so isn't done", y.count(15), 1);
    KIT.due("purses", Kit.person(y, 0, 0) * 100 + Kit.person(y, 1, 0), 8000);
    KIT.due("paying", y.undo(), 0);
    KIT.stays("paying and undoing", Kit.all(y), states[0]);
    y.twist(0, 2);
    KIT.due("twisting", y.undo(), 0);
    KIT.stays("twisting and undoing", Kit.all(y), states[0]);
    x.undo();
    KIT.stays("the latest first", Kit.all(x), states[2]);
    x.undo();
    KIT.stays("the latest first", Kit.all(x), states[1]);
  }

  private static void undoingTwenty() {
    for (int done = 19; done <= 21; done++) {
      RopeLedger x = KIT.sound(TWO + "debt a b 1 0 99;plank 99;");
      x.forgive(0);
      for (int i = 1; i < done; i++) {
        KIT.due("cross", x.cross(0, i), 1);
      }
      int left = Math.min(20, done);
      KIT.due("done " + done, x.count(15), left);
      for (int i = left - 1; i >= 0; i--) {
        KIT.due("done " + done + ", undo", x.undo(), i);
      }
      KIT.due("done " + done + ", no more", x.undo(), -1);
      KIT.due("done " + done + ": the first of 21 can't be undone", x.strand(0, 5), done <= 20 ? 0 : 2);
      KIT.due("a is where it was", Kit.person(x, 0, 3), 0);
    }
  }

  /** Acts and undoings by turns, so that the row of what is kept goes round more than once. */
  private static void undoingOverTheEnd() {
    RopeLedger x = KIT.sound(TWO + "plank 99;");
    for (int round = 0; round < 5; round++) {
      for (int i = 0; i < 11; i++) {
        x.cross(0, 0);
      }
      for (int i = 0; i < 5; i++) {
        x.undo();
      }
    }
    KIT.due("30 are left, 20 at most, 5 undone", x.count(15), 15);
    KIT.due("a crossed 30 times", Kit.person(x, 0, 3), 0);
    for (int i = 14; i >= 0; i--) {
      KIT.due("undo", x.undo(), i);
      KIT.due("a by turns", Kit.person(x, 0, 3), (15 - i) % 2);
    }
    KIT.due("no more", x.undo(), -1);
  }

  /** "if no YEAR went by since". */
  private static void undoingBehindAYear() {
    RopeLedger x = KIT.sound(SOME);
    x.forgive(0);
    x.cross(1, 0);
    x.years(0);
    x.years(-1);
    x.years(100);
    x.ahead(5);
    x.life(1);
    x.chance(0, 3, 0);
    x.tried(0, 0, 5);
    KIT.due("none went by", x.count(15), 2);
    x.years(1);
    KIT.due("one went by", x.count(15), 0);
    KIT.due("none", x.undo(), -1);
    KIT.due("forgiven", x.strand(0, 5), 2);
    x.forgive(1);
    KIT.due("in this year", x.undo(), 0);
    KIT.due("no more", x.undo(), -1);
    KIT.due("there", x.strand(1, 5), 0);
    KIT.due("the year stays", x.count(10), 1);
  }

  /** Calls that are refused, or find it so, can't be undone. */
  private static void undoingWhatWasRefused() {
    RopeLedger x = KIT.sound(SOME);
    x.tie(0, 0, 1, 1);
    x.tie(0, 1, 0, 1);
    x.forgive(3);
    x.pay(3);
    x.twist(0, 1);
    x.twist(2, 2);
    x.twist(0, 3);
    x.cross(0, 99);
    x.cross(0, 100);
    x.cross(2, 0);
    KIT.due("nothing is done", x.count(15), 0);
    x.see(0, 1, 1, true);
    x.strikes(0);
    x.known(1);
    x.keep();
    KIT.due("nor these", x.count(15), 0);
    KIT.due("none", x.undo(), -1);
  }

  /** What is undone is gone from all that is asked. */
  private static void undoingAsked() {
    RopeLedger x = KIT.sound(SOME);
    int bears = x.bears();
    x.tie(0, 1, 77, 0);
    x.pay(2);
    KIT.due("a has 80 and can pay it", x.life(3), 1);
    x.undo();
    KIT.due("a has 50 and can't", x.life(3), 50);
    x.undo();
    KIT.due("it bears", x.bears(), bears);
    KIT.due("no such strand", x.life(3), -1);
    KIT.due("no such strand", x.order(8, 0, 0), -1);
  }

  /** "NONE: there is none." */
  private static void imagesOfNothing() {
    RopeLedger x = new RopeLedger();
    KIT.due("none", x.back(), -1);
    KIT.due("keep", x.keep(), 0);
    KIT.due("back", x.back(), 0);
    x.years(5);
    KIT.due("back", x.back(), 0);
    KIT.due("year", x.count(10), 0);
    RopeLedger y = KIT.sound(SOME);
    y.forgive(0);
    String before = Kit.all(y);
    KIT.due("none", y.back(), -1);
    KIT.stays("back() of none", Kit.all(y), before);
  }

  /** "All (but SAGS) is as in the IMAGE (nothing to undo then): which YEAR it is". */
  private static void imagesOfAll() {
    RopeLedger x = KIT.sound(SOME);
    x.years(1);
    x.tie(1, 0, 25, 3);
    x.cross(1, 0);
    String kept = Kit.bridge(x);
    KIT.due("keep", x.keep(), 1);
    KIT.stays("keep()", Kit.bridge(x), kept);
    KIT.due("what can be undone still can", x.count(15), 2);
    x.forgive(0);
    x.pay(1);
    x.twist(2, 3);
    x.cross(0, 0);
    x.tie(0, 1, 9, 9);
    x.years(30);
    KIT.due("back", x.back(), 1);
    KIT.stays("back()", Kit.bridge(x), kept);
    KIT.due("nothing to undo", x.count(15), 0);
    KIT.due("nothing to undo", x.undo(), -1);
    x.years(1);
    KIT.due("it goes on from there", x.count(10), 2);
    KIT.due("back once more", x.back(), 1);
    KIT.stays("back() once more", Kit.bridge(x), kept);
  }

  /** "An IMAGE is kept (in place of one ahead)". */
  private static void imagesInPlaceOfOneAhead() {
    RopeLedger x = KIT.sound(SOME);
    KIT.due("keep", x.keep(), 0);
    x.years(3);
    KIT.due("keep", x.keep(), 3);
    x.years(4);
    KIT.due("the later one", x.back(), 3);
    KIT.due("the later one again", x.back(), 3);
    x.years(99);
    KIT.due("keep", x.keep(), 102);
    KIT.due("back", x.back(), 102);
    RopeLedger late = KIT.sound("plank 1;");
    for (int i = 0; i < 10; i++) {
      late.years(99);
    }
    late.years(9);
    KIT.due("in the last year", late.keep(), 999);
    KIT.due("in the last year", late.back(), 999);
  }

  /** A new text has no image; one with a fault, or of too many bytes, leaves it. */
  private static void imagesAndTexts() {
    RopeLedger x = KIT.sound(SOME);
    x.years(2);
    x.keep();
    KIT.fault(x, "plank 1000;", 2, 6);
    x.text(5);
    KIT.due("it is still kept", x.back(), 2);
    Kit.tell(x, "plank 1;");
    KIT.due("no image", x.back(), -1);
    KIT.due("year", x.count(10), 0);
    KIT.due("keep", x.keep(), 0);
    KIT.due("back", x.back(), 0);
    KIT.due("plank", x.count(12), 1);
  }

  private static void imagesAndUndoing() {
    RopeLedger x = KIT.sound(SOME);
    x.forgive(0);
    x.keep();
    KIT.due("undone behind keeping", x.undo(), 0);
    KIT.due("there", x.strand(0, 5), 0);
    KIT.due("back", x.back(), 0);
    KIT.due("forgiven, as it was kept", x.strand(0, 5), 2);
    KIT.due("nothing to undo", x.undo(), -1);
    x.forgive(1);
    KIT.due("one can be undone", x.count(15), 1);
    KIT.due("back", x.back(), 0);
    KIT.due("none can be undone", x.count(15), 0);
    KIT.due("there", x.strand(1, 5), 0);
  }

  /** "An IMAGE keeps all but SAGS." */
  private static void imagesAndSags() {
    RopeLedger x = KIT.sound(SOME);
    x.see(0, 10, 13, true);
    x.keep();
    x.see(0, 10, 0, false);
    x.known(1);
    x.back();
    KIT.due("sags", x.count(13), 2);
    KIT.due("known by", x.count(14), 1);
    x.known(-1);
    KIT.due("painted by both", x.painted(), 0);
    x.years(3);
    x.back();
    KIT.due("sags", x.count(13), 2);
    KIT.due("known by", x.count(14), 2);
    KIT.due("sags go on from there", x.strikes(1), 2);
  }

  /** The tape and the fault "of the latest text()" are none of what an image keeps. */
  private static void imagesAndTheTape() {
    RopeLedger x = KIT.sound(SOME);
    KIT.fault(x, "plank 1000;", 2, 6);
    Kit.feed(x, "plank 7;            ");
    x.keep();
    Kit.feed(x, "plank 9;            ");
    x.back();
    KIT.due("what was fed since is there", x.feed(0x20202020, 0x20202020, 0x20202020, 0x20202020, 0x20202020), 60);
    KIT.due("two planks", x.text(60), -1);
    KIT.due("told already", x.fault(0), 3);
    KIT.due("at the second", x.fault(1), 20);
    KIT.due("back", x.back(), 0);
    KIT.due("of the latest text", x.fault(0), 3);
    KIT.due("of the latest text", x.fault(1), 20);
    KIT.due("the tape stays empty", x.text(1), -2);
  }

  /** "NONE for another what." */
  private static void countsAsked() {
    RopeLedger x = KIT.sound(SOME + "plank 8;law bear 1+2;");
    int[] wrong = {-1, -2, 16, 17, Integer.MIN_VALUE, Integer.MAX_VALUE};
    for (int what : wrong) {
      KIT.due("count(" + what + ")", x.count(what), -1);
      KIT.due("count(" + what + ") of nothing", new RopeLedger().count(what), -1);
    }
    int[] want = {2, 3, 3, 0, 0, 0, 3, 0, 0, 3, 0, 60, 8, 0, 0, 0};
    for (int what = 0; what < 16; what++) {
      KIT.due("count(" + what + ")", x.count(what), want[what]);
    }
  }

  private static void countsOfStrands() {
    RopeLedger x = KIT.sound(TWO + "debt a b 1 0 99;debt a b 2 98 99;debt a b 4 0 99;debt a b 8 0 0;debt a b 16 0 99;debt a b 60 98 0 painted;");
    strands(x, "told", 6, 6, 0, 0, 0, 91);
    x.forgive(0);
    strands(x, "one is forgiven", 6, 5, 0, 1, 0, 90);
    x.pay(2);
    strands(x, "one is paid", 6, 4, 1, 1, 0, 86);
    x.tie(1, 0, 32, 99);
    strands(x, "one is tied", 7, 5, 1, 1, 0, 118);
    x.years(1);
    strands(x, "two snapped, one is paid", 7, 2, 2, 1, 2, 48);
    x.forgive(4);
    x.forgive(6);
    strands(x, "none is there", 7, 0, 2, 3, 2, 0);
    x.undo();
    strands(x, "undone", 7, 1, 2, 2, 2, 32);
  }

  private static void strands(RopeLedger x, String why, int ever, int there, int paid, int forgiven, int snapped, int owed) {
    int[] want = {ever, there, paid, forgiven, snapped};
    for (int i = 0; i < want.length; i++) {
      KIT.due(why + ": count(" + (i + 1) + ")", x.count(i + 1), want[i]);
    }
    KIT.due(why + ": owed", x.count(11), owed);
  }

  private static void countsOfCrossings() {
    RopeLedger x = KIT.sound(TWO + "cross a 0 0;cross a 99 0;cross b 0 1;cross b 99 1;cross a 0 99;plank 30;");
    int[][] want = {{5, 0, 0}, {5, 1, 1}, {5, 2, 2}};
    for (int year = 0; year < 3; year++) {
      for (int what = 6; what <= 8; what++) {
        KIT.due("count(" + what + ") in year " + year, x.count(what), want[year][what - 6]);
      }
      x.years(1);
    }
    x.years(97);
    KIT.due("made in year 99", x.count(7), 3);
    KIT.due("the year", x.count(10), 100);
  }
}
