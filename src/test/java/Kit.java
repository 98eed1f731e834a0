/** What the tests share: laying a text on the tape, and noting answers that are not due. */
final class Kit {
  static final long NO_PERSON = 1000001;
  static final long NO_WHAT = 1000002;
  private static final long OTHER = 1000003;

  private int wrong;
  private final String name;

  Kit(String name) {
    this.name = name;
  }

  void due(String call, long got, long want) {
    if (got != want) {
      wrong++;
      System.out.println(name + ": " + call + " answered " + got + ", due is " + want);
    }
  }

  void due(String call, boolean got, boolean want) {
    due(call, got ? 1 : 0, want ? 1 : 0);
  }

  /** All that all() tells is as it was. */
  void stays(String calls, String now, String before) {
    if (!now.equals(before)) {
      wrong++;
      System.out.println(name + ": " + calls + " changed\n  " + before + "\n  into\n  " + now);
    }
  }

  void end() {
    System.out.println(wrong == 0 ? name + ": all answers are as due" : name + ": " + wrong + " wrong");
    if (wrong != 0) {
      System.exit(1);
    }
  }

  /** A fresh object with the text told. */
  RopeLedger told(String text, int lines) {
    RopeLedger x = new RopeLedger();
    due("text of " + text, tell(x, text), lines);
    return x;
  }

  /** A text that must be told, on a fresh object; each ';' ends a line. */
  RopeLedger sound(String text) {
    return told(text, (int) text.chars().filter(sign -> sign == ';').count());
  }

  /** A text that must fail on a fresh object. */
  void fault(String text, int number, int place) {
    fault(new RopeLedger(), text, number, place);
  }

  void fault(RopeLedger x, String text, int number, int place) {
    due("text " + text, tell(x, text), -1);
    due("fault of " + text, x.fault(0), number);
    due("its place in " + text, x.fault(1), place);
  }

  /** Feeds a text, with blanks behind it, and tells it. */
  static int tell(RopeLedger x, String text) {
    feed(x, text);
    return x.text(text.length());
  }

  static void feed(RopeLedger x, String text) {
    for (int i = 0; i < text.length(); i += 20) {
      x.feed(four(text, i), four(text, i + 4), four(text, i + 8), four(text, i + 12), four(text, i + 16));
    }
  }

  static int four(String text, int at) {
    int number = 0;
    for (int i = at; i < at + 4; i++) {
      number = number << 8 | (i < text.length() ? text.charAt(i) & 255 : 32);
    }
    return number;
  }

  static int letters(String word) {
    int number = 0;
    for (int i = 0; i < 6; i++) {
      number = number << 5 | (i < word.length() ? word.charAt(i) - 'a' + 1 : 0);
    }
    return number;
  }

  /** What person() answers, or what it throws: these very classes, not ones below them. */
  static long person(RopeLedger x, int person, int what) {
    try {
      return x.person(person, what);
    } catch (IndexOutOfBoundsException e) {
      return e.getClass() == IndexOutOfBoundsException.class ? NO_PERSON : OTHER;
    } catch (java.util.NoSuchElementException e) {
      return e.getClass() == java.util.NoSuchElementException.class ? NO_WHAT : OTHER;
    }
  }

  /** Persons, strands, crossings, laws and counts as they stand; some 80 calls of the 512 with two persons and three strands. */
  static String all(RopeLedger x) {
    StringBuilder told = new StringBuilder(bridge(x));
    for (int what = 13; what < 16; what++) {
      told.append(" count").append(what).append('=').append(x.count(what));
    }
    return told.append(" fault=").append(x.fault(0)).append('@').append(x.fault(1)).toString();
  }

  /** What an image keeps of all(): all but sags, what can be undone and faults. */
  static String bridge(RopeLedger x) {
    StringBuilder told = new StringBuilder();
    for (int what = 0; what < 13; what++) {
      told.append(" count").append(what).append('=').append(x.count(what));
    }
    for (int i = 0; i < x.count(0); i++) {
      told.append(" person").append(i);
      for (int what = 0; what < 6; what++) {
        told.append(what == 0 ? '=' : ',').append(person(x, i, what));
      }
    }
    for (int i = 0; i < x.count(1); i++) {
      told.append(" strand").append(i);
      for (int what = 0; what < 9; what++) {
        told.append(what == 0 ? '=' : ',').append(x.strand(i, what));
      }
    }
    for (int i = 0; i < x.count(6); i++) {
      told.append(" crossing").append(i).append('=').append(x.crossing(i, 3));
    }
    return told.append(" bears=").append(x.bears()).toString();
  }
}
