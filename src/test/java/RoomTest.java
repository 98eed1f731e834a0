import java.lang.management.ManagementFactory;

/** All calls of a run live in one room: what a new object takes, and that calls take nothing more. */
public final class RoomTest {
  private static final Kit KIT = new Kit("RoomTest");
  private static final com.sun.management.ThreadMXBean BEAN = (com.sun.management.ThreadMXBean) ManagementFactory.getThreadMXBean();
  private static final int MOST_OF_AN_OBJECT = 40000;
  private static final String TEXT = "person a east 50 10;person b west 30 20;person c east 9 9;debt a b 40 0 2;debt b a 30 50 1;debt a b 20 0 9 painted;"
      + "debt c b 5 0 99;debt b c 6 0 99;twist 0 1;cross a 5 0;cross b 40 0;cross b 99 3;plank 5;seed 7;"
      + "law bear owed-owed*frayed/100+two*(age+year<due or not rich);law fray 2+two;law rent owed/50;";
  private static final String FAULTY = "person a east 50 10;person a east 1 1;";

  public static void main(String[] args) {
    made();
    called();
    KIT.end();
  }

  private static long taken() {
    return BEAN.getThreadAllocatedBytes(Thread.currentThread().getId());
  }

  private static void made() {
    int objects = 50;
    RopeLedger[] row = new RopeLedger[objects];
    long before = taken();
    for (int i = 0; i < objects; i++) {
      row[i] = new RopeLedger();
    }
    long each = (taken() - before) / objects;
    KIT.due("bytes of a new object, " + each, each <= MOST_OF_AN_OBJECT, true);
  }

  /** The least of several runs: the machine's own compiling takes some bytes at times. */
  private static void called() {
    long least = Long.MAX_VALUE;
    for (int run = 0; run < 10; run++) {
      RopeLedger x = new RopeLedger();
      long before = taken();
      oneRun(x);
      least = Math.min(least, taken() - before);
    }
    KIT.due("bytes of calls, none of which throws", least, 0);
  }

  /** Each call of the face, the dearest ones many times; none that throws. */
  private static void oneRun(RopeLedger x) {
    Kit.tell(x, FAULTY);
    x.fault(0);
    Kit.tell(x, TEXT);
    for (int i = 0; i < 12; i++) {
      x.see(i, 100, 50 * i, i % 2 == 0);
    }
    x.strikes(3);
    x.tie(0, 1, 50, 9);
    x.tie(1, 2, 9, 9);
    for (int i = 0; i < 12; i++) {
      ask(x, i);
    }
    x.keep();
    x.years(3);
    x.back();
  }

  private static void ask(RopeLedger x, int i) {
    x.named(i);
    x.person(i % 3, i % 6);
    x.strand(i % 7, i % 9);
    x.crossing(i % 3, i % 4);
    x.law(i % 3, i % 7);
    x.bears();
    x.sag(i);
    x.cross(0, 0);
    x.twist(i % 7, (i + 1) % 7);
    x.forgive(i == 5 ? 4 : -1);
    x.pay(i == 7 ? 3 : -1);
    x.order(127, 1, i);
    x.order(3, i, 0);
    x.drop(1 + i * 9);
    x.loan(900);
    x.strike(0, 1);
    x.twists(i % 6);
    x.partner(i % 6, i % 7);
    x.life(i % 7);
    x.ahead(99);
    x.known(i % 14 - 1);
    x.painted();
    x.tells(i % 2);
    x.rests(i * 5);
    x.rest(i * 5, i % 5);
    x.chance(i, 30, 40);
    x.tried(i % 5, 0, 50);
    x.undo();
    x.count(i);
  }
}
