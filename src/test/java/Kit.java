/** What the tests share: laying a text on the tape, and noting answers that are not due. */
final class Kit {
  private int wrong;
  private final String name;

  Kit(String name) {
    this.name = name;
  }

  void due(String call, long got, long want) {
    if (got != want) {
      wrong++;
      System.out.println(name + ": " + call + " answered " + got + ", due is " + want);
    }
  }

  void due(String call, boolean got, boolean want) {
    due(call, got ? 1 : 0, want ? 1 : 0);
  }

  void end() {
    System.out.println(wrong == 0 ? name + ": all answers are as due" : name + ": " + wrong + " wrong");
    if (wrong != 0) {
      System.exit(1);
    }
  }

  /** A fresh object with the text told. */
  RopeLedger told(String text, int lines) {
    RopeLedger x = new RopeLedger();
    due("text of " + text, tell(x, text), lines);
    return x;
  }

  /** Feeds a text, with blanks behind it, and tells it. */
  static int tell(RopeLedger x, String text) {
    feed(x, text);
    return x.text(text.length());
  }

  static void feed(RopeLedger x, String text) {
    for (int i = 0; i < text.length(); i += 20) {
      x.feed(four(text, i), four(text, i + 4), four(text, i + 8), four(text, i + 12), four(text, i + 16));
    }
  }

  static int four(String text, int at) {
    int number = 0;
    for (int i = at; i < at + 4; i++) {
      number = number << 8 | (i < text.length() ? text.charAt(i) & 255 : 32);
    }
    return number;
  }

  static int letters(String word) {
    int number = 0;
    for (int i = 0; i < 6; i++) {
      number = number << 5 | (i < word.length() ? word.charAt(i) - 'a' + 1 : 0);
    }
    return number;
  }

  /** What person() answers; 1000001 for IndexOutOfBoundsException, 1000002 for NoSuchElementException. */
  static long person(RopeLedger x, int person, int what) {
    try {
      return x.person(person, what);
    } catch (IndexOutOfBoundsException e) {
      return 1000001;
    } catch (java.util.NoSuchElementException e) {
      return 1000002;
    }
  }
}
