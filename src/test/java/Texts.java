import java.util.ArrayList;
import java.util.List;
import java.util.Random;

/** Random texts: sound ones, and ones with a piece changed. */
final class Texts {
  private static final String[] NAMES = {"owed", "frayed", "age", "due", "year", "rich", "two"};
  private static final String[] COMPARISONS = {"<", "<=", "=", "<>", ">=", ">"};
  private static final String[] PIECES = {"person ", "debt ", "twist ", "cross ", "plank ", "seed ", "law ", " east ", " west ",
      " bear ", " fray ", " rent ", " painted", " owed ", " and ", " or ", " not ", "<", ">", "=", "<=", "<>", "+", "-", "*",
      "/", "(", ")", ";", ";;", " a ", " b ", " 0 ", " 1 ", " 100 ", " 1000 ", " 10000 ", "\t", "A", "abcdefg", "\n", " ", "9"};

  private Texts() {
  }

  /** A text without a fault (but for a few with too many knots), of at most 680 bytes. */
  static String sound(Random random) {
    for (int i = 0; i < 1000; i++) {
      String text = trySound(random);
      if (text.length() <= 680) {
        return text;
      }
    }
    return "";
  }

  private static String trySound(Random random) {
    StringBuilder text = new StringBuilder();
    int persons = 2 + random.nextInt(5);
    int[] side = new int[persons];
    for (int i = 0; i < persons; i++) {
      side[i] = i < 2 ? i : random.nextInt(2);
      int purse = random.nextInt(3) == 0 ? random.nextInt(1000) : random.nextInt(120);
      line(text, random, "person " + name(i) + (side[i] == 0 ? " east " : " west ") + purse + " " + (1 + random.nextInt(60)));
    }
    int strands = random.nextInt(11);
    for (int i = 0; i < strands; i++) {
      int from = random.nextInt(persons);
      int to = random.nextInt(persons);
      while (side[to] == side[from]) {
        to = random.nextInt(persons);
      }
      int owed = random.nextInt(6) == 0 ? 1 + random.nextInt(999) : 1 + random.nextInt(90);
      int frayed = random.nextBoolean() ? 0 : random.nextInt(100);
      int due = random.nextInt(4) == 0 ? random.nextInt(100) : random.nextInt(12);
      line(text, random, "debt " + name(from) + " " + name(to) + " " + owed + " " + frayed + " " + due
          + (random.nextInt(5) == 0 ? " painted" : ""));
    }
    twists(text, random, strands);
    rest(text, random, persons);
    return text.toString();
  }

  private static void twists(StringBuilder text, Random random, int strands) {
    List<Integer> free = new ArrayList<>();
    for (int i = 0; i < strands; i++) {
      free.add(i);
    }
    while (free.size() >= 2 && random.nextInt(3) != 0) {
      int one = free.remove(random.nextInt(free.size()));
      int other = free.remove(random.nextInt(free.size()));
      line(text, random, "twist " + one + " " + other);
    }
  }

  private static void rest(StringBuilder text, Random random, int persons) {
    int crossings = random.nextInt(5);
    for (int i = 0; i < crossings; i++) {
      line(text, random, "cross " + name(random.nextInt(persons)) + " " + random.nextInt(100) + " " + random.nextInt(8));
    }
    if (random.nextBoolean()) {
      line(text, random, "plank " + random.nextInt(100));
    }
    if (random.nextInt(4) == 0) {
      line(text, random, "seed " + random.nextInt(100000));
    }
    String[] kinds = {"bear", "fray", "rent"};
    for (String kind : kinds) {
      if (random.nextInt(3) == 0) {
        line(text, random, "law " + kind + " " + or(random, 2));
      }
    }
  }

  private static void line(StringBuilder text, Random random, String line) {
    text.append(line).append(random.nextInt(20) == 0 ? " ;\n" : ";");
  }

  private static String name(int i) {
    return new String[] {"a", "b", "carl", "dddddd", "ab", "z"}[i];
  }

  private static String or(Random random, int depth) {
    String text = and(random, depth);
    return random.nextInt(8) == 0 ? text + " or " + and(random, depth) : text;
  }

  private static String and(Random random, int depth) {
    String text = negated(random, depth);
    return random.nextInt(8) == 0 ? text + " and " + negated(random, depth) : text;
  }

  private static String negated(Random random, int depth) {
    if (random.nextInt(10) == 0) {
      return "not " + negated(random, depth);
    }
    String text = sum(random, depth);
    return random.nextInt(5) == 0 ? text + COMPARISONS[random.nextInt(6)] + sum(random, depth) : text;
  }

  private static String sum(Random random, int depth) {
    String text = product(random, depth);
    int more = random.nextInt(3);
    for (int i = 0; i < more; i++) {
      text += (random.nextBoolean() ? "+" : "-") + product(random, depth);
    }
    return text;
  }

  private static String product(Random random, int depth) {
    String text = plain(random, depth);
    int more = random.nextInt(4) == 0 ? 1 : 0;
    for (int i = 0; i < more; i++) {
      text += (random.nextBoolean() ? "*" : "/") + plain(random, depth);
    }
    return text;
  }

  private static String plain(Random random, int depth) {
    int kind = random.nextInt(5);
    if (kind == 0 && depth > 0) {
      return "(" + or(random, depth - 1) + ")";
    }
    if (kind < 3) {
      return NAMES[random.nextInt(7)];
    }
    return "" + (random.nextInt(6) == 0 ? random.nextInt(10000) : random.nextInt(10));
  }

  /** A text in which a place or a few are cut out, put in or put again. */
  static String changed(Random random) {
    StringBuilder text = new StringBuilder(sound(random));
    int changes = 1 + random.nextInt(3);
    for (int i = 0; i < changes; i++) {
      int at = random.nextInt(text.length() + 1);
      int kind = random.nextInt(4);
      if (kind == 0) {
        text.insert(at, PIECES[random.nextInt(PIECES.length)]);
      } else if (kind == 1) {
        text.delete(at, Math.min(text.length(), at + 1 + random.nextInt(3)));
      } else if (kind == 2) {
        String piece = PIECES[random.nextInt(PIECES.length)];
        text.replace(at, Math.min(text.length(), at + piece.length()), piece);
      } else {
        changeToken(text, random);
      }
    }
    return text.length() > 680 ? text.substring(0, 680) : text.toString();
  }

  private static void changeToken(StringBuilder text, Random random) {
    String[] lines = text.toString().split(";");
    String line = lines.length == 0 ? "" : lines[random.nextInt(lines.length)];
    if (random.nextBoolean()) {
      text.append(line).append(';');
      return;
    }
    String[] words = line.split(" ");
    if (words.length == 0) {
      return;
    }
    int at = text.indexOf(line);
    int word = random.nextInt(words.length);
    words[word] = random.nextBoolean() ? PIECES[random.nextInt(PIECES.length)] : words[random.nextInt(words.length)];
    text.replace(at, at + line.length(), String.join(" ", words));
  }
}
