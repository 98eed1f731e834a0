import java.util.ArrayList;
import java.util.Arrays;
import java.util.List;

/** Bounds of a text (part 1 of the document) and of promises 1 to 5: at each, just within it and just beyond it. */
public final class TextBoundsTest {
  private static final Kit KIT = new Kit("TextBoundsTest");
  private static final String TWO = "person a east 1 1;person b west 1 1;";
  private static final String[] LANGUAGE = ("person debt twist cross plank seed law east west bear fray rent painted owed frayed"
      + " age due year rich two and or not").split(" ");
  private static final String[] SIGNS = {"+", "-", "*", "/", "<", "<=", "=", "<>", ">=", ">", " and ", " or "};

  public static void main(String[] args) {
    emptyTexts();
    words();
    blanks();
    signsOfAnE();
    signsOfTwo();
    numbers();
    numbersReadBack();
    howManyLines();
    brackets();
    knots();
    leastOfOnePlace();
    moreMustCome();
    whatAnEMayBe();
    wordsOfTheLanguageElsewhere();
    tokensCutByTheLength();
    toldAlready();
    notToldAhead();
    withinOneSide();
    twistsOfAText();
    firstAlongTheText();
    feeding();
    highestFirst();
    howManyAreOnTheTape();
    textOfTheWholeTape();
    textsOneBehindAnother();
    faultsAsked();
    names();
    KIT.end();
  }

  private static void fault(String text, int number, int place) {
    KIT.fault(text, number, place);
  }

  private static void sound(String text) {
    KIT.sound(text);
  }

  /** "A TEXT: { LINE ';' }": there may be none, but each has its sign behind it. */
  private static void emptyTexts() {
    KIT.told("", 0);
    KIT.told(" ", 0);
    KIT.told("\n \n", 0);
    fault(";", 1, 0);
    fault("plank 1;;", 1, 8);
    fault("plank 1; ;", 1, 9);
    fault("plank 1 seed 1;", 1, 8);
    KIT.told("plank 1;", 1);
    KIT.told("\nplank\n1\n;\n", 1);
  }

  /** "Words: small letters in a row; W: one of 1 .. 6 letters, none of those of the language". */
  private static void words() {
    String[] good = {"a", "z", "zz", "abcde", "abcdef", "zzzzzz"};
    for (String word : good) {
      sound("person " + word + " east 1 1;");
      sound("person " + word + " east 1 1;person b west 1 1;debt " + word + " b 1 0 0;debt b " + word + " 1 0 0;cross " + word + " 0 0;");
    }
    String[] bad = {"abcdefg", "zzzzzzz", "abcdefgh", "paintedd", "persons"};
    for (String word : bad) {
      fault("person " + word + " east 1 1;", 1, 7);
      fault(TWO + "debt " + word + " b 1 0 0;", 1, 41);
      fault(TWO + "debt a " + word + " 1 0 0;", 1, 43);
      fault(TWO + "cross " + word + " 0 0;", 1, 42);
      fault(word + " 1;", 1, 0);
      fault("law bear " + word + ";", 1, 9);
    }
    for (String word : LANGUAGE) {
      fault("person " + word + " east 1 1;", 1, 7);
      fault(TWO + "debt " + word + " b 1 0 0;", 1, 41);
      fault(TWO + "cross " + word + " 0 0;", 1, 42);
      wordsBeside(word);
    }
    fault("person Abc east 1 1;", 1, 7);
    fault("person aBc east 1 1;", 1, 8);
    fault("person a1 east 1 1;", 1, 8);
    fault("personaeast 1 1;", 1, 0);
    sound("person a east1 1;");
    sound("person a east 1 1;plank1;");
  }

  /** A word of the language less its last letter, or with one more, is a name like others. */
  private static void wordsBeside(String word) {
    if (word.length() - 1 <= 6) {
      sound("person " + word.substring(0, word.length() - 1) + " east 1 1;");
    }
    if (word.length() + 1 <= 6) {
      sound("person " + word + "z east 1 1;");
      sound("person z" + word + " east 1 1;");
    } else {
      fault("person " + word + "z east 1 1;", 1, 7);
    }
  }

  /** "Blanks 10, 32": no other byte is one, and none else may stand ahead of a line. */
  private static void blanks() {
    for (int sign = 0; sign < 256; sign++) {
      if (sign == 10 || sign == 32) {
        KIT.told("plank 1;" + (char) sign, 1);
        KIT.told((char) sign + "plank 1;", 1);
        KIT.told("plank" + (char) sign + "1;", 1);
      } else {
        fault("plank 1;" + (char) sign, 1, 8);
        if (sign < '0' || sign > '9' && sign < 'a' || sign > 'z') {
          fault("plank" + (char) sign + "1;", 1, 5);
        }
      }
    }
  }

  /** Each byte between two numbers of an E: what is a sign, a digit, a blank and what is none. */
  private static void signsOfAnE() {
    for (int sign = 0; sign < 256; sign++) {
      String text = "law bear 1" + (char) sign + "2;";
      boolean digit = sign >= '0' && sign <= '9';
      if (digit || "+-*/<=>".indexOf(sign) >= 0) {
        KIT.told(text, 1);
      } else if (sign == 10 || sign == 32 || sign == ';') {
        fault(text, 1, 11);
      } else {
        fault(text, 1, 10);
      }
    }
  }

  /** "A = (or > behind <) right behind < or > belongs to it." */
  private static void signsOfTwo() {
    String[] signs = {"<", "=", ">"};
    for (String one : signs) {
      for (String other : signs) {
        boolean belongs = one.equals("<") && !other.equals("<") || one.equals(">") && other.equals("=");
        if (belongs) {
          sound("law bear 1" + one + other + "2;");
        } else {
          fault("law bear 1" + one + other + "2;", 1, 11);
        }
        fault("law bear 1" + one + " " + other + "2;", 1, 12);
        fault("law bear 1" + one + "\n" + other + "2;", 1, 12);
      }
    }
    fault("law bear 1<=>2;", 1, 12);
    fault("law bear 1<==2;", 1, 12);
    fault("law bear 1<>=2;", 1, 12);
    fault("law bear 1<>>2;", 1, 12);
    fault("law bear 1>==2;", 1, 12);
    fault("law bear 1>=>2;", 1, 12);
  }

  /** Each N of a LINE by what is said of it. */
  private static void numbers() {
    number("person a east ", 0, 999, " 1;");
    number("person a west 1 ", 1, 99, ";");
    number(TWO + "debt a b ", 1, 999, " 0 0;");
    number(TWO + "debt a b 1 ", 0, 99, " 0;");
    number(TWO + "debt a b 1 0 ", 0, 99, ";");
    number(TWO + "debt a b 1 0 ", 0, 99, " painted;");
    number(TWO + "cross a ", 0, 99, " 0;");
    number(TWO + "cross a 0 ", 0, 99, ";");
    number("plank ", 0, 999, ";");
    number("seed ", 0, 99999, ";");
    number("law bear ", 0, 9999, ";");
    number("law fray 1+(", 0, 9999, ")*2;");
    number("law rent not 1 <> ", 0, 9999, " or 3;");
  }

  private static void number(String ahead, int least, int most, String behind) {
    int[] within = {least, least + 1, most - 1, most};
    for (int n : within) {
      sound(ahead + n + behind);
      sound(ahead + "00000000000000000000" + n + behind);
    }
    if (least > 0) {
      fault(ahead + (least - 1) + behind, 2, ahead.length());
      fault(ahead + "000" + (least - 1) + behind, 2, ahead.length());
    }
    String[] beyond = {"" + (most + 1), "" + (most + 2), most + "0", "2147483647", "2147483648", "4294967295", "4294967297",
        "18446744073709551617", "99999999999999999999999999999999999999"};
    for (String n : beyond) {
      fault(ahead + n + behind, 2, ahead.length());
    }
    fault(ahead + "x" + behind, 1, ahead.length());
    fault(ahead + "-1" + behind, 1, ahead.length());
    fault(ahead + "east" + behind, 1, ahead.length());
    fault(ahead + ";" + behind, 1, ahead.length());
  }

  private static void numbersReadBack() {
    RopeLedger x = KIT.sound("person a east 0 1;person b west 999 99;debt a b 1 0 0;debt b a 999 99 99;debt a b 2 1 98 painted;"
        + "cross a 0 0;cross b 99 99;plank 999;law bear 9999;law fray 0;");
    int[][] persons = {{0, 1, 0, 0}, {999, 99, 1, 1}};
    for (int i = 0; i < persons.length; i++) {
      for (int what = 0; what < 4; what++) {
        KIT.due("person " + i + " " + what, Kit.person(x, i, what), persons[i][what]);
      }
    }
    int[][] strands = {{0, 1, 1, 0, 0, 0, 9999, -1, 0}, {1, 0, 999, 99, 99, 0, 9999, -1, 0}, {0, 1, 2, 1, 98, 0, 0, -1, 0}};
    for (int i = 0; i < strands.length; i++) {
      for (int what = 0; what < 9; what++) {
        KIT.due("strand " + i + " " + what, x.strand(i, what), strands[i][what]);
      }
    }
    int[][] crossings = {{0, 0, 0, 0}, {1, 99, 99, 0}};
    for (int i = 0; i < crossings.length; i++) {
      for (int what = 0; what < 4; what++) {
        KIT.due("crossing " + i + " " + what, x.crossing(i, what), crossings[i][what]);
      }
    }
    KIT.due("plank", x.count(12), 999);
    KIT.due("9999 of an E", x.law(0, 0), 9999);
    KIT.due("0 of an E", x.law(1, 0), 0);
    KIT.due("a plank that isn't told", KIT.sound("seed 9;").count(12), 0);
    KIT.due("a plank of 0", KIT.sound("plank 0;").count(12), 0);
  }

  /** "PERSONS, at most 6", "STRANDS, at most 10", "CROSSINGS, at most 8"; one more: 2 at the word of the LINE. */
  private static void howManyLines() {
    String five = TWO + "person c east 1 1;person d west 1 1;person e east 1 1;";
    String six = five + "person f west 1 1;";
    sound(five);
    KIT.due("six persons", KIT.sound(six).count(0), 6);
    fault(six + "person g west 1 1;", 2, six.length());
    fault(six + "\nperson g", 2, six.length() + 1);
    fault(six + "person", 2, six.length());
    fault(six + "person a east 1 1;", 2, six.length());
    fault(six + "person !", 2, six.length());
    sound(six + "debt a f 1 0 0;debt f e 1 0 0;cross f 0 0;plank 1;");
    KIT.due("the last of six", KIT.sound(six).named(Kit.letters("f")), 5);

    String nine = TWO + "debt a b 1 0 0;".repeat(9);
    String ten = nine + "debt a b 1 0 0;";
    sound(nine);
    KIT.due("ten strands", KIT.sound(ten).count(1), 10);
    fault(ten + "debt a b 1 0 0;", 2, ten.length());
    fault(ten + "debt", 2, ten.length());
    fault(ten + "debt a a", 2, ten.length());
    sound(ten + "twist 0 9;cross a 0 0;");

    String seven = TWO + "cross a 0 0;".repeat(7);
    String eight = seven + "cross b 0 0;";
    sound(seven);
    KIT.due("eight crossings", KIT.sound(eight).count(6), 8);
    fault(eight + "cross a 0 0;", 2, eight.length());
    fault(eight + "cross", 2, eight.length());
    fault(eight + "cross z 0 0;", 2, eight.length());
    sound(eight + "debt a b 1 0 0;");

    KIT.told(six + "debt a b 1 0 0;".repeat(10) + "twist 0 1;twist 2 3;twist 4 5;twist 6 7;twist 8 9;" + "cross a 0 0;".repeat(8)
        + "plank 1;seed 1;law bear 1;law fray 1;law rent 1;", 34);
  }

  /** "a ninth '(' open" of one E: 2 at it. */
  private static void brackets() {
    for (int open = 1; open <= 8; open++) {
      sound("law bear " + "(".repeat(open) + "1" + ")".repeat(open) + ";");
    }
    fault("law bear " + "(".repeat(9) + "1" + ")".repeat(9) + ";", 2, 17);
    fault("law bear " + "(".repeat(10), 2, 17);
    fault("law bear " + "(".repeat(8), 1, 17);
    fault("law bear " + "( ".repeat(8) + "(", 2, 25);
    sound("law bear " + "(".repeat(8) + "1)+(1)" + ")".repeat(7) + ";");
    fault("law bear " + "(".repeat(8) + "1)+((1", 2, 21);
    sound("law bear (1)+(1)+(1)+(1)+(1)+(1)+(1)+(1)+(1)+(1);");
    String deep = "(".repeat(8) + "1" + ")".repeat(8) + ";";
    sound("law bear " + deep + "law fray " + deep + "law rent " + deep);
    fault("law bear " + deep + "law fray ((((((((not (", 2, 27 + 9 + 8 + 4);
    fault("law bear (((1))", 1, 15);
    fault("law bear (((1));", 1, 15);
    fault("law bear (((1))));", 1, 16);
  }

  /** "a 65th KNOT of all E (N, NAMES, signs, not, and, or: one each)": 2 at it. */
  private static void knots() {
    String sum = "law bear 1" + "+1".repeat(30);
    KIT.due("61 knots", KIT.sound(sum + ";").count(9), 61);
    KIT.due("63 knots", KIT.sound(sum + "+1;").count(9), 63);
    KIT.due("64 knots", KIT.sound(sum + "+1;law fray 1;").count(9), 64);
    KIT.due("64 knots", KIT.sound("law bear " + "not ".repeat(63) + "1;").count(9), 64);
    fault(sum + "+1+1;", 2, sum.length() + 3);
    fault("law bear " + "not ".repeat(64) + "1;", 2, 265);
    fault("law bear " + "not ".repeat(65) + "1;", 2, 265);
    String[] names = "owed frayed age due year rich two 0 9999".split(" ");
    String wantsPart = sum + "+1;law fray not ";
    String wantsSign = sum + ";law fray 1+1";
    for (String name : names) {
      KIT.due("one knot: " + name, KIT.sound("law bear " + name + ";").count(9), 1);
      KIT.due("64 with " + name, KIT.sound(sum + "+1;law fray " + name + ";").count(9), 64);
      fault(wantsPart + name + ";", 2, wantsPart.length());
    }
    fault(wantsPart + "not 1;", 2, wantsPart.length());
    for (String sign : SIGNS) {
      KIT.due("three knots: " + sign, KIT.sound("law rent 1" + sign + "2;").count(9), 3);
      fault(wantsSign + sign + "2;", 2, wantsSign.length() + (sign.startsWith(" ") ? 1 : 0));
    }
    KIT.due("two knots: not", KIT.sound("law rent not 2;").count(9), 2);
    KIT.due("a bracket is none", KIT.sound("law rent (((2)));").count(9), 1);
    KIT.due("a law is none", KIT.sound(TWO + "plank 1;seed 2;debt a b 3 0 0;").count(9), 0);
    sound(wantsSign.substring(0, wantsSign.length() - 2) + ";law rent (((5)));");
    fault(wantsPart + "((((5", 2, wantsPart.length() + 4);
  }

  /** "of one place the least". */
  private static void leastOfOnePlace() {
    String full = "law bear 1" + "+1".repeat(31) + ";law fray 1";
    fault(full + " not 1;", 1, full.length() + 1);
    fault(full + " 10000;", 1, full.length() + 1);
    fault(full + " owed;", 1, full.length() + 1);
    fault(full + "!", 1, full.length());
    fault(full + " x;", 1, full.length() + 1);
    String compared = "law bear 1" + "+1".repeat(30) + ";law fray 1<1";
    fault(compared + "<1;", 1, compared.length());
    fault(compared + "+1;", 2, compared.length());
    String negated = "law bear 1" + "+1".repeat(30) + ";law fray 1+";
    sound(negated + "1;");
    fault(negated + "not 1;", 1, negated.length());
    fault("law bear ((((((((1(", 1, 18);
    fault("law bear ((((((((owed (", 1, 22);
    fault(TWO + "debt abcdefg b 1 0 0;", 1, 41);
    fault(TWO + "debt a east 1 0 0;", 1, 43);
    fault(TWO + "debt a c 1 0 0;", 4, 43);
    fault(TWO + "debt a 1000 1 0 0;", 1, 43);
    fault(TWO + "debt a b 1 0 0;twist x 0;", 1, 57);
    fault(TWO + "debt a b 1 0 0;twist 0 x;", 1, 59);
    fault("person person east 1 1;", 1, 7);
  }

  /** "the length, if more must come": each text that ends ahead of a ';'. */
  private static void moreMustCome() {
    String text = "person a east 1 2 ; person b west 3 4 ; debt a b 5 6 7 painted ; debt b a 8 9 10 ; twist 0 1 ; cross a 11 12 ; "
        + "plank 13 ; seed 14 ; law bear not ( owed + 1 ) * 2 <= frayed and 1 or two / 3 ; law fray 1 <> 2 ; law rent 3 - 4 ;";
    int lines = 0;
    for (int i = 1; i <= text.length(); i++) {
      boolean tokenEnds = text.charAt(i - 1) != ' ' && (i == text.length() || text.charAt(i) == ' ');
      if (!tokenEnds) {
        continue;
      }
      if (text.charAt(i - 1) == ';') {
        lines++;
        KIT.told(text.substring(0, i), lines);
      } else {
        fault(text.substring(0, i), 1, i);
        fault(text.substring(0, i) + " ", 1, i + 1);
        fault(text.substring(0, i) + "\n\n", 1, i + 2);
      }
    }
    KIT.due("lines", lines, 11);
  }

  /** What may stand where in an E; elsewhere it is 1 at it. */
  private static void whatAnEMayBe() {
    String[] sound = {"1", "not 1", "not not not 1", "(not 1)+1", "1 and not 1", "1 or not not 1", "not 1<2", "not (1<2)", "(1<2)<3", "1<(2<3)",
        "1<2 and 2<3 or 3<4", "1<2 or not 2<3", "1*2/3*4+5-6*7", "((1))", "1 and 2 and 3", "1 or 2 or 3", "not(1)and(1)or(1)"};
    for (String e : sound) {
      sound("law bear " + e + ";");
    }
    String[] wrong = {"|", "|+1", "1+|+1", "1*|/1", "1+|not 1", "1*|not 1", "1<|not 1", "not|", "not |and 1", "1 and |or 1", "1 or|", "1<2|<3",
        "1<2|=3", "1=2+1|>3", "not 1<2|<3", "(1<2|<3)", "1|(2)", "(1)|2", "(1)|(2)", "(|)", "1|)", "(1)|)", "(|", "1|not 2",
        "1 |x", "|x", "|-1", "(|-1)", "1 |painted", "|east", "|bear", "1 |law", "|<1", "|and", "1+(|)"};
    for (String e : wrong) {
      int at = e.indexOf('|');
      fault("law bear " + e.replace("|", "") + ";", 1, 9 + at);
    }
  }

  /** Each word of the language stands where the LINES and E say, and is 1 at it elsewhere. */
  private static void wordsOfTheLanguageElsewhere() {
    List<String> tokens = new ArrayList<>(Arrays.asList(LANGUAGE));
    tokens.addAll(Arrays.asList("x", "abcdef", "1", "(", ")", "+", "<", "="));
    for (String token : tokens) {
      if (!among(token, "person debt twist cross plank seed law")) {
        fault(token + " 1;", 1, 0);
        fault("plank 1;" + token, 1, 8);
      }
      stands("person a ", token, " 1 1;", "east west");
      stands("law ", token, " 1;", "bear fray rent");
      stands(TWO + "debt a b 1 0 0 ", token, ";", "painted");
      stands("law bear ", token, ";", "owed frayed age due year rich two 1");
      stands("law bear ", token, " 1;", "not");
      stands("law bear ", token, " 1);", "(");
      stands("law bear 1 ", token, " 1;", "and or + < =");
      stands("law bear (1 ", token, ";", ")");
    }
    fault(TWO + "debt a b 1 0 painted 0;", 1, TWO.length() + 13);
    fault(TWO + "debt a b 1 0 0 painted painted;", 1, TWO.length() + 23);
    fault(TWO + "debt painted a b 1 0 0;", 1, TWO.length() + 5);
  }

  private static boolean among(String token, String those) {
    return Arrays.asList(those.split(" ")).contains(token);
  }

  /** A token that may stand there, told by one of the rows that ask for it; else the fault is at it, or behind it where another row may. */
  private static void stands(String ahead, String token, String behind, String may) {
    String text = ahead + token + behind;
    if (among(token, may)) {
      sound(text);
      return;
    }
    KIT.due("text " + text, Kit.tell(new RopeLedger(), text), -1);
    boolean elsewhere = ahead.equals("law bear ") && among(token, "owed frayed age due year rich two 1 not (")
        || ahead.startsWith("law bear ") && !ahead.equals("law bear ") && among(token, "and or + < = )");
    if (!elsewhere) {
      fault(text, 1, ahead.length());
    }
  }

  /** "The TAPE's first n bytes": a token that goes on behind them ends with them. */
  private static void tokensCutByTheLength() {
    cut("plank 9999;", 9, 1, 9);
    cut("plank 9999;", 10, 2, 6);
    cut("persona east 1 1;", 6, 1, 6);
    cut("persona east 1 1;", 7, 1, 0);
    cut("person abcdefg east 1 1;", 13, 1, 13);
    cut("person abcdefg east 1 1;", 14, 1, 7);
    cut("person a eastern 1 1;", 13, 1, 13);
    cut("person a eastern 1 1;", 14, 1, 9);
    cut("law bear 1<=2;", 11, 1, 11);
    cut("law bear 1<=2;", 12, 1, 12);
    cut("law bear 1<=2;", 13, 1, 13);
    cut("law bear owedx;", 13, 1, 13);
    cut("law bear owedx;", 14, 1, 9);
    cut("law bear 100000;", 13, 1, 13);
    cut("law bear 100000;", 14, 2, 9);
    cut("law bearx 1;", 8, 1, 8);
    cut("law bearx 1;", 9, 1, 4);
    RopeLedger x = new RopeLedger();
    Kit.feed(x, "plank 7;plank 8;");
    KIT.due("up to the first sign", x.text(8), 1);
    KIT.due("plank", x.count(12), 7);
  }

  private static void cut(String text, int n, int number, int place) {
    RopeLedger x = new RopeLedger();
    Kit.feed(x, text);
    KIT.due("the first " + n + " of " + text, x.text(n), -1);
    KIT.due("fault of the first " + n + " of " + text, x.fault(0), number);
    KIT.due("its place in the first " + n + " of " + text, x.fault(1), place);
  }

  /** "told already: a PERSON's name (at W), plank, seed (at the word), a law of its KIND (at KIND)". */
  private static void toldAlready() {
    fault("person a east 1 1;person a east 1 1;", 3, 25);
    fault(TWO + "person b west 1 1;", 3, 43);
    fault("person abcdef east 1 1;person abcdef", 3, 30);
    sound("person abcdef east 1 1;person abcdeg east 1 1;person abcde east 1 1;person bcdef east 1 1;");
    sound("person a east 1 1;person aa east 1 1;person b east 1 1;");
    fault("plank 0;plank 0;", 3, 8);
    fault("plank 0; plank", 3, 9);
    fault("seed 0;seed 0;", 3, 7);
    fault("seed 0;plank 0;seed", 3, 15);
    String[] kinds = {"bear", "fray", "rent"};
    for (String kind : kinds) {
      fault("law " + kind + " 0;law " + kind + " 0;", 3, 15);
      fault("law " + kind + " 0;law " + kind, 3, 15);
      for (String other : kinds) {
        if (!other.equals(kind)) {
          sound("law " + kind + " 0;law " + other + " 0;");
        }
      }
    }
  }

  /** "a PERSON that isn't told ahead (at W), a STRAND that isn't (at N)". */
  private static void notToldAhead() {
    fault("debt a b 1 0 0;" + TWO, 4, 5);
    fault("person a east 1 1;debt a b 1 0 0;person b west 1 1;", 4, 25);
    fault("person b west 1 1;debt a b 1 0 0;", 4, 23);
    fault("cross a 0 0;person a east 1 1;", 4, 6);
    fault(TWO + "debt ab b 1 0 0;", 4, 41);
    fault(TWO + "cross aa 0 0;", 4, 42);
    fault("twist 0 1;", 4, 6);
    fault(TWO + "debt a b 1 0 0;twist 0 1;debt a b 1 0 0;", 4, 59);
    String ten = TWO + "debt a b 1 0 0;".repeat(10);
    sound(ten + "twist 9 8;");
    sound(ten + "twist 0009 0;");
    String[] beyond = {"10", "11", "99", "4294967296", "4294967297", "18446744073709551616", "99999999999999999999999999"};
    for (String n : beyond) {
      fault(ten + "twist " + n + " 0;", 4, ten.length() + 6);
      fault(ten + "twist 0 " + n + ";", 4, ten.length() + 8);
    }
    String two = TWO + "debt a b 1 0 0;".repeat(2);
    sound(two + "twist 1 0;");
    fault(two + "twist 2 0;", 4, two.length() + 6);
    fault(two + "twist 0 2;", 4, two.length() + 8);
    fault(two + "twist 2 2;", 4, two.length() + 6);
  }

  /** "a debt within one SIDE (at the second W)". */
  private static void withinOneSide() {
    String four = TWO + "person c east 1 1;person d west 1 1;";
    String[] names = {"a", "b", "c", "d"};
    for (int i = 0; i < 4; i++) {
      for (int j = 0; j < 4; j++) {
        String text = four + "debt " + names[i] + " " + names[j] + " 1 0 0;";
        if (i % 2 == j % 2) {
          fault(text, 5, four.length() + 7);
        } else {
          sound(text);
        }
      }
    }
  }

  /** "a TWIST of a STRAND with itself or of one that has a TWIST (at N)". */
  private static void twistsOfAText() {
    String four = TWO + "debt a b 1 0 0;".repeat(4);
    for (int i = 0; i < 4; i++) {
      fault(four + "twist " + i + " " + i + ";", 5, four.length() + 8);
    }
    sound(four + "twist 0 3;twist 2 1;");
    String one = four + "twist 1 2;";
    fault(one + "twist 1 2;", 5, one.length() + 6);
    fault(one + "twist 2 1;", 5, one.length() + 6);
    fault(one + "twist 1 0;", 5, one.length() + 6);
    fault(one + "twist 2 0;", 5, one.length() + 6);
    fault(one + "twist 0 1;", 5, one.length() + 8);
    fault(one + "twist 0 2;", 5, one.length() + 8);
    fault(one + "twist 0 0;", 5, one.length() + 8);
    fault(one + "twist 1 1;", 5, one.length() + 6);
    fault(one + "twist 1 9;", 5, one.length() + 6);
    fault(one + "twist 0 4;", 4, one.length() + 8);
    fault(one + "twist 1", 5, one.length() + 6);
  }

  private static void firstAlongTheText() {
    fault("plank 1000;plank 1;", 2, 6);
    fault("plank 1;plank 1000;", 3, 8);
    fault("seed 100000;!", 2, 5);
    fault("!seed 100000;", 1, 0);
    fault("cross z 100 0;", 4, 6);
    fault(TWO + "cross a 100 100;", 2, 44);
    fault(TWO + "cross a 0 100 !", 2, 46);
    fault(TWO + "debt a a 0 100 100;", 5, 43);
    fault(TWO + "debt z z 0 100 100;", 4, 41);
    fault(TWO + "debt a b 0 100 100;", 2, 45);
    fault("person a up 1000 0;", 1, 9);
    fault("person a east 1000 0;", 2, 14);
    fault("law bear 1;law bear 10000;", 3, 15);
    fault("law bear 10000;law bear 1;", 2, 9);
    fault("law bear 10000 10000;", 2, 9);
    fault("law bear 1 10000;", 1, 11);
  }

  /** "Twenty bytes come behind the TAPE ..: how many it has; NONE, and none come, if it would have more than 700." */
  private static void feeding() {
    RopeLedger x = new RopeLedger();
    for (int i = 1; i <= 34; i++) {
      x.feed(0x20202020, 0x20202020, 0x20202020, 0x20202020, 0x20202020);
    }
    KIT.due("680 and 20", x.feed(0x20202020, 0x20202020, 0x20202020, 0x73656564, 0x20353b20), 700);
    KIT.due("700 and 20", x.feed(0x21212121, 0x21212121, 0x21212121, 0x21212121, 0x21212121), -1);
    KIT.due("once more", x.feed(0x21212121, 0x21212121, 0x21212121, 0x21212121, 0x21212121), -1);
    KIT.due("none came", x.text(701), -2);
    KIT.due("none came", x.text(720), -2);
    KIT.due("what was there is there", x.text(700), 1);
    KIT.due("the first behind a text", x.feed(0, 0, 0, 0, 0), 20);
    KIT.due("the second", x.feed(0, 0, 0, 0, 0), 40);
  }

  /** "four of each number, the highest first". */
  private static void highestFirst() {
    RopeLedger x = new RopeLedger();
    // p l a n | k space 3 7 | ; s e e | d space 4 ; | l space space space
    KIT.due("feed", x.feed(0x706c616e, 0x6b203337, 0x3b736565, 0x6420343b, 0x6c202020), 20);
    KIT.due("feed", x.feed(0x8120203b, 0xff000000, 0x00000001, 0, 0), 40);
    KIT.due("both lines", x.text(16), 2);
    KIT.due("plank", x.count(12), 37);
    for (int i = 0; i < 20; i++) {
      int[] n = {0x20202020, 0x20202020, 0x20202020, 0x20202020, 0x20202020};
      n[i / 4] ^= (0x20 ^ 0xe1) << 24 - 8 * (i % 4);
      KIT.due("feed", x.feed(n[0], n[1], n[2], n[3], n[4]), 20);
      KIT.due("one byte that is no sign", x.text(20), -1);
      KIT.due("its place", x.fault(1), i);
    }
  }

  /** "-2, and the TAPE stays: there are not so many, n is below 0." */
  private static void howManyAreOnTheTape() {
    RopeLedger x = new RopeLedger();
    int[] none = {1, 2, 20, 700, -1, -2, Integer.MAX_VALUE, Integer.MIN_VALUE};
    for (int n : none) {
      KIT.due("of nothing text(" + n + ")", x.text(n), -2);
    }
    KIT.due("of nothing nothing", x.text(0), 0);
    Kit.feed(x, "plank 8;seed 9;     ");
    String before = Kit.all(x);
    int[] beyond = {21, 22, 700, 701, -1, Integer.MAX_VALUE, Integer.MIN_VALUE};
    for (int n : beyond) {
      KIT.due("of 20 text(" + n + ")", x.text(n), -2);
    }
    KIT.stays("text() that is -2", Kit.all(x), before);
    KIT.due("the tape stayed", x.text(20), 2);
    KIT.due("plank", x.count(12), 8);
    KIT.due("it is empty then", x.text(1), -2);
    Kit.feed(x, "plank 8;plank 9;    ");
    KIT.due("the first 8 alone", x.text(8), 1);
    KIT.due("the rest is gone", x.text(1), -2);
    Kit.feed(x, "plank 8;plank 9;    ");
    KIT.due("the first 0 alone", x.text(0), 0);
    KIT.due("the rest is gone", x.text(1), -2);
    Kit.feed(x, "plank 8;plank 9;    ");
    KIT.due("a fault", x.text(20), -1);
    KIT.due("the tape is empty, too", x.text(1), -2);
    KIT.due("the tape is empty, too", x.feed(0, 0, 0, 0, 0), 20);
    KIT.due("19 of 20", x.text(19), -1);
  }

  /** Texts that end at the last byte of a full tape. */
  private static void textOfTheWholeTape() {
    String blank = " ".repeat(690);
    KIT.told(blank + "plank 700;", 1);
    KIT.told("plank 700;" + blank, 1);
    fault(blank + " plank 700", 1, 700);
    fault(blank + "plank 700!", 1, 699);
    fault(blank + "   law bea", 1, 697);
    fault(blank + " law bear ", 1, 700);
    KIT.told("plank " + "0".repeat(692) + "7;", 1);
    KIT.told("law bear " + " ".repeat(600) + "(((1)))" + "\n".repeat(83) + ";", 1);
    fault("a".repeat(700), 1, 0);
    fault("person " + "a".repeat(693), 1, 7);
    fault("law bear " + "(".repeat(691), 2, 17);
    fault("law bear 1" + ")".repeat(690), 1, 10);
    fault(";".repeat(700), 1, 0);
    fault("law bear " + "1+".repeat(345), 2, 9 + 64);
  }

  /** Nothing of an older text, told or with a fault, is left in a newer one: two of each kind, as sheets are used again. */
  private static void textsOneBehindAnother() {
    String full = TWO + "person c east 9 9;debt a b 7 3 2 painted;debt b a 5 0 1;twist 0 1;cross a 0 0;cross b 99 0;plank 4;seed 5;"
        + "law bear 6;law fray 7;law rent 8;";
    String fresh = Kit.all(new RopeLedger());
    RopeLedger x = new RopeLedger();
    for (int i = 0; i < 3; i++) {
      KIT.due("full", Kit.tell(x, full), 13);
      KIT.due("year", x.count(10), 0);
      KIT.due("to come", x.crossing(0, 3) + x.crossing(1, 3), 0);
      KIT.due("bears", x.bears(), 13);
      x.keep();
      x.years(2);
      x.tie(0, 1, 5, 5);
      x.see(0, 1, 0, true);
      x.known(0);
      KIT.fault(x, full + "!", 1, full.length());
      KIT.fault(x, full + "law bear 1;", 3, full.length() + 4);
      KIT.due("year", x.count(10), 2);
      KIT.due("known by", x.count(14), 0);
      KIT.due("without lines", Kit.tell(x, ""), 0);
      KIT.stays("a text without lines", Kit.all(x), fresh);
      KIT.due("nothing to undo", x.undo(), -1);
      KIT.due("no image", x.back(), -1);
      KIT.due("no strands told", x.painted(), 1);
      x.see(0, 1, 0, true);
      KIT.due("all are known", x.count(14), 1);
    }
    smallBehindFull(full);
  }

  private static void smallBehindFull(String full) {
    String small = "person z west 2 3;person y east 5 6;debt z y 9 0 8;";
    RopeLedger x = new RopeLedger();
    for (int i = 0; i < 3; i++) {
      Kit.tell(x, full);
      Kit.tell(x, full + "(");
      KIT.due("small", Kit.tell(x, small), 3);
      KIT.due("no painted one", x.strand(0, 6), 9);
      KIT.due("no twist", x.strand(0, 7), -1);
      KIT.due("no law", x.law(0, 0), Long.MIN_VALUE);
      KIT.due("no law", x.law(1, 0), Long.MIN_VALUE);
      KIT.due("no law", x.law(2, 0), Long.MIN_VALUE);
      KIT.due("no knots", x.count(9), 0);
      KIT.due("no crossings", x.count(6) + x.count(7) + x.count(8), 0);
      KIT.due("no plank", x.bears(), 9);
      KIT.due("nobody of the other text", x.named(Kit.letters("a")), -1);
      KIT.due("its own", x.named(Kit.letters("z")), 0);
      KIT.due("strands told", x.painted(), 3);
    }
    RopeLedger y = new RopeLedger();
    String knots = "law bear 1" + "+1".repeat(31) + ";law fray 1;";
    for (int i = 0; i < 3; i++) {
      KIT.due("64 knots each time", Kit.tell(y, knots), 2);
      KIT.due("knots", y.count(9), 64);
      KIT.fault(y, knots + "law rent 1;", 2, knots.length() + 9);
      KIT.fault(y, "law bear ((((1+2*3", 1, 18);
      KIT.fault(y, "law bear not 1+", 1, 15);
      KIT.due("no sign of the other text waits", Kit.tell(y, TWO + "debt a b 1 0 0;law bear 7;"), 4);
      KIT.due("works out", y.law(0, 0), 7);
      KIT.due("another", Kit.tell(y, TWO + "debt a b 1 0 0;law bear ((((((((2+3))))))))*4;"), 4);
      KIT.due("works out", y.law(0, 0), 20);
    }
  }

  /** "Of the latest text() that was not -2, what 0: its FAULT (0), 1: its place (NONE without). NONE for another what." */
  private static void faultsAsked() {
    RopeLedger x = new RopeLedger();
    int[] others = {-1, 2, 3, Integer.MAX_VALUE, Integer.MIN_VALUE};
    KIT.due("of none", x.fault(0), 0);
    KIT.due("of none", x.fault(1), -1);
    KIT.fault(x, "plank 1000;", 2, 6);
    for (int what : others) {
      KIT.due("fault(" + what + ")", x.fault(what), -1);
    }
    x.text(1);
    x.text(-1);
    KIT.due("-2 leaves it", x.fault(0), 2);
    KIT.due("-2 leaves it", x.fault(1), 6);
    KIT.due("asked again", x.fault(0), 2);
    KIT.fault(x, "!", 1, 0);
    KIT.due("a sound one", Kit.tell(x, "plank 1;"), 1);
    KIT.due("no fault", x.fault(0), 0);
    KIT.due("no place", x.fault(1), -1);
    for (int what : others) {
      KIT.due("fault(" + what + ")", x.fault(what), -1);
    }
    KIT.fault(x, "plank 1;plank 2;", 3, 8);
    KIT.due("of nothing", x.text(0), 0);
    KIT.due("no fault", x.fault(0), 0);
  }

  /** "by the letters, 5 bits each (a is 1; the first one highest of six, 0 behind the last one); NONE: there is none such." */
  private static void names() {
    RopeLedger x = KIT.sound("person a east 1 1;person ab east 1 1;person abc east 1 1;person zyxw west 1 1;person aaaaa east 1 1;"
        + "person zzzzzz west 1 1;");
    int[] letters = {0x02000000, 0x02200000, 1 << 25 | 2 << 20 | 3 << 15, 26 << 25 | 25 << 20 | 24 << 15 | 23 << 10,
        1 << 25 | 1 << 20 | 1 << 15 | 1 << 10 | 1 << 5, 26 << 25 | 26 << 20 | 26 << 15 | 26 << 10 | 26 << 5 | 26};
    for (int i = 0; i < letters.length; i++) {
      KIT.due("person " + i, x.named(letters[i]), i);
      KIT.due("one letter more", x.named(letters[i] + 1), -1);
      KIT.due("one letter less", x.named(letters[i] - 1), -1);
      KIT.due("bit 30", x.named(letters[i] | 1 << 30), -1);
      KIT.due("bit 31", x.named(letters[i] | 1 << 31), -1);
    }
    int[] none = {0, 1, -1, 1 << 20, 27 << 25, 31 << 25, Integer.MAX_VALUE, Integer.MIN_VALUE, 2 << 25};
    for (int n : none) {
      KIT.due("named(" + n + ")", x.named(n), -1);
    }
    KIT.due("of none", new RopeLedger().named(0), -1);
    KIT.due("of none", new RopeLedger().named(1 << 25), -1);
  }
}
